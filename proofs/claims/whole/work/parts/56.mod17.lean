/-! the model: whether the text is complete -/
theorem rdM_at (T : List Nat) (len at' many : Nat) (O : List Nat) : at' ≤ (rdM T len at' many O).2.1 ∧ (rdM T len at' many O).2.1 ≤ at' + 3 ∧ ((rdM T len at' many O).1 = true → at' + 1 ≤ (rdM T len at' many O).2.1) := by
  unfold rdM
  by_cases e1 : ltr T len at' = 109 ∨ ltr T len at' = 114
  · rw [if_pos e1]
    exact ⟨by dsimp only; omega, by dsimp only; omega, fun _ => Nat.le_refl _⟩
  rw [if_neg e1]
  by_cases e2 : ltr T len at' = 116 ∨ ltr T len at' = 107 ∨ ltr T len at' = 112
  · rw [if_pos e2]
    by_cases e3 : 48 ≤ ltr T len (at' + 1) ∧ ltr T len (at' + 1) ≤ 52
    · rw [if_pos e3]
      by_cases P : (if ltr T len at' = 116 then 49 ≤ ltr T len (at' + 2) ∧ ltr T len (at' + 2) ≤ 51 else 48 ≤ ltr T len (at' + 2) ∧ ltr T len (at' + 2) ≤ 52 - (ltr T len (at' + 1) - 48))
      · rw [if_pos P]
        exact ⟨by dsimp only; omega, by dsimp only; omega, fun _ => by dsimp only; omega⟩
      · rw [if_neg P]
        exact ⟨by dsimp only; omega, by dsimp only; omega, fun q => Bool.noConfusion q⟩
    · rw [if_neg e3]
      exact ⟨by dsimp only; omega, by dsimp only; omega, fun q => Bool.noConfusion q⟩
  · rw [if_neg e2]
    exact ⟨by dsimp only; omega, by dsimp only; omega, fun q => Bool.noConfusion q⟩
def odOk (O : List Nat) (k : Nat) : Prop := O.getD (3 * k) 0 < 128 ∧ (O.getD (3 * k) 0 = 116 → O.getD (3 * k + 1) 0 < 5 ∧ O.getD (3 * k + 2) 0 < 5) ∧ (O.getD (3 * k) 0 = 107 ∨ O.getD (3 * k) 0 = 112 → O.getD (3 * k + 1) 0 < 5 ∧ O.getD (3 * k + 2) 0 < 5 - O.getD (3 * k + 1) 0)
theorem odOk_of {O O' : List Nat} {k : Nat} (h : odOk O k) (e0 : O'.getD (3 * k) 0 = O.getD (3 * k) 0) (e1 : O'.getD (3 * k + 1) 0 = O.getD (3 * k + 1) 0) (e2 : O'.getD (3 * k + 2) 0 = O.getD (3 * k + 2) 0) : odOk O' k := by
  unfold odOk
  rw [e0, e1, e2]
  exact h
theorem rdM_od (T : List Nat) (len at' many : Nat) (O : List Nat) (hC : ∀ j, T.getD j 0 < 128) (hO : O.length = 120) (hm : many ≤ 30) (h : ∀ k, k < many → odOk O k) :
    (rdM T len at' many O).2.2.length = 120 ∧ (∀ k, k < many → odOk (rdM T len at' many O).2.2 k) ∧ ((rdM T len at' many O).1 = true → odOk (rdM T len at' many O).2.2 many) := by
  have hc := ltr_lt (len := len) (at' := at') hC
  have he := ltr_lt (len := len) (at' := at' + 1) hC
  have hf := ltr_lt (len := len) (at' := at' + 2) hC
  have s1 : ∀ a k, k < many → odOk (O.set (3 * many) a) k := fun a k hk => odOk_of (h k hk) (gs_ne (by omega)) (gs_ne (by omega)) (gs_ne (by omega))
  have s3 : ∀ a b c k, k < many → odOk (((O.set (3 * many) a).set (3 * many + 1) b).set (3 * many + 2) c) k := fun a b c k hk => odOk_of (h k hk) (by rw [gs_ne (by omega), gs_ne (by omega), gs_ne (by omega)]) (by rw [gs_ne (by omega), gs_ne (by omega), gs_ne (by omega)]) (by rw [gs_ne (by omega), gs_ne (by omega), gs_ne (by omega)])
  have l1 : ∀ a, (O.set (3 * many) a).length = 120 := fun a => List.length_set.trans hO
  have l3 : ∀ a b c, (((O.set (3 * many) a).set (3 * many + 1) b).set (3 * many + 2) c).length = 120 := fun a b c => List.length_set.trans (List.length_set.trans (l1 a))
  have g1 : ∀ a, (O.set (3 * many) a).getD (3 * many) 0 = a := fun a => gs_eq (by omega)
  have g3 : ∀ a b c, (((O.set (3 * many) a).set (3 * many + 1) b).set (3 * many + 2) c).getD (3 * many) 0 = a := fun a b c => by rw [gs_ne (by omega), gs_ne (by omega), g1]
  have g4 : ∀ a b c, (((O.set (3 * many) a).set (3 * many + 1) b).set (3 * many + 2) c).getD (3 * many + 1) 0 = b := fun a b c => by rw [gs_ne (by omega), gs_eq (by rw [l1]; omega)]
  have g5 : ∀ a b c, (((O.set (3 * many) a).set (3 * many + 1) b).set (3 * many + 2) c).getD (3 * many + 2) 0 = c := fun a b c => by rw [gs_eq (by rw [List.length_set, l1]; omega)]
  unfold rdM
  split
  · next e =>
    refine ⟨l1 _, s1 _, fun _ => ?_⟩
    unfold odOk
    rw [g1]
    exact ⟨hc, fun q => by omega, fun q => by omega⟩
  · split
    · next e =>
      split
      · next e2 =>
        by_cases P : (if ltr T len at' = 116 then 49 ≤ ltr T len (at' + 2) ∧ ltr T len (at' + 2) ≤ 51 else 48 ≤ ltr T len (at' + 2) ∧ ltr T len (at' + 2) ≤ 52 - (ltr T len (at' + 1) - 48))
        · rw [if_pos P]
          refine ⟨l3 _ _ _, s3 _ _ _, fun _ => ?_⟩
          unfold odOk
          rw [g3, g4, g5]
          refine ⟨hc, fun q => ?_, fun q => ?_⟩
          · rw [if_pos q] at P
            omega
          · rw [if_neg (by omega)] at P
            omega
        · rw [if_neg P]
          exact ⟨l3 _ _ _, s3 _ _ _, fun q => Bool.noConfusion q⟩
      · exact ⟨l1 _, s1 _, fun q => Bool.noConfusion q⟩
    · exact ⟨l1 _, s1 _, fun q => Bool.noConfusion q⟩
theorem rdM_len (T : List Nat) (len at' many : Nat) (O : List Nat) (hO : O.length = 120) : (rdM T len at' many O).2.2.length = 120 := by
  unfold rdM
  by_cases e1 : ltr T len at' = 109 ∨ ltr T len at' = 114
  · rw [if_pos e1]
    exact List.length_set.trans hO
  rw [if_neg e1]
  by_cases e2 : ltr T len at' = 116 ∨ ltr T len at' = 107 ∨ ltr T len at' = 112
  · rw [if_pos e2]
    by_cases e3 : 48 ≤ ltr T len (at' + 1) ∧ ltr T len (at' + 1) ≤ 52
    · rw [if_pos e3]
      by_cases P : (if ltr T len at' = 116 then 49 ≤ ltr T len (at' + 2) ∧ ltr T len (at' + 2) ≤ 51 else 48 ≤ ltr T len (at' + 2) ∧ ltr T len (at' + 2) ≤ 52 - (ltr T len (at' + 1) - 48))
      · rw [if_pos P]
        exact List.length_set.trans (List.length_set.trans (List.length_set.trans hO))
      · rw [if_neg P]
        exact List.length_set.trans (List.length_set.trans (List.length_set.trans hO))
    · rw [if_neg e3]
      exact List.length_set.trans hO
  · rw [if_neg e2]
    exact List.length_set.trans hO
def icM (T : List Nat) (len : Nat) : Nat → Bool → Nat → Nat → List Nat → Bool × Nat × Nat × List Nat
  | 0, b, a, m, O => (b, a, m, O)
  | j + 1, b, a, m, O => if b = true ∧ a < len then (if ltr T len a = 59 then icM T len j (rdM T len (a + 1) m O).1 (rdM T len (a + 1) m O).2.1 (if (rdM T len (a + 1) m O).1 = true then m + 1 else m) (rdM T len (a + 1) m O).2.2 else (false, a, m, O)) else (b, a, m, O)
def icF (T : List Nat) (len : Nat) (O : List Nat) : Bool × Nat × Nat × List Nat := icM T len 61 (rdM T len 0 0 O).1 (rdM T len 0 0 O).2.1 (if (rdM T len 0 0 O).1 = true then 1 else 0) (rdM T len 0 0 O).2.2
theorem icM_od (T : List Nat) (len : Nat) (hC : ∀ j, T.getD j 0 < 128) (hl : len ≤ 60) : ∀ (j : Nat) (b : Bool) (a m : Nat) (O : List Nat), O.length = 120 → (b = true → 2 * m ≤ a + 1) → m ≤ 31 → (∀ k, k < m → odOk O k) →
    (icM T len j b a m O).2.2.2.length = 120 ∧ (icM T len j b a m O).2.2.1 ≤ 31 ∧ ∀ k, k < (icM T len j b a m O).2.2.1 → odOk (icM T len j b a m O).2.2.2 k
  | 0, b, a, m, O, hO, _, hm, h => ⟨hO, hm, h⟩
  | j + 1, b, a, m, O, hO, hb, hm, h => by
    rw [icM]
    split
    · next e =>
      split
      · have hm2 := hb e.1
        have r1 := rdM_od T len (a + 1) m O hC hO (by omega) h
        have r2 := rdM_at T len (a + 1) m O
        refine icM_od T len hC hl j _ _ _ _ r1.1 (fun q => ?_) ?_ ?_
        · rw [if_pos q]
          have := r2.2.2 q
          omega
        · split <;> omega
        · intro k hk
          by_cases q : (rdM T len (a + 1) m O).1 = true
          · rw [if_pos q] at hk
            rcases Nat.lt_or_ge k m with y | y
            · exact r1.2.1 k y
            · obtain rfl : k = m := by omega
              exact r1.2.2 q
          · rw [if_neg q] at hk
            exact r1.2.1 k hk
      · exact ⟨hO, hm, h⟩
    · exact ⟨hO, hm, h⟩
theorem icF_od (T : List Nat) (len : Nat) (O : List Nat) (hC : ∀ j, T.getD j 0 < 128) (hl : len ≤ 60) (hO : O.length = 120) :
    (icF T len O).2.2.2.length = 120 ∧ (icF T len O).2.2.1 ≤ 31 ∧ ∀ k, k < (icF T len O).2.2.1 → odOk (icF T len O).2.2.2 k := by
  have r1 := rdM_od T len 0 0 O hC hO (by omega) (fun k hk => absurd hk (Nat.not_lt_zero k))
  have r2 := rdM_at T len 0 0 O
  refine icM_od T len hC hl 61 _ _ _ _ r1.1 (fun q => ?_) ?_ ?_
  · rw [if_pos q]
    have := r2.2.2 q
    omega
  · split <;> omega
  · intro k hk
    by_cases q : (rdM T len 0 0 O).1 = true
    · rw [if_pos q] at hk
      obtain rfl : k = 0 := by omega
      exact r1.2.2 q
    · rw [if_neg q] at hk
      exact absurd hk (Nat.not_lt_zero k)
set_option maxRecDepth 100000 in
set_option maxHeartbeats 4000000 in
theorem ev_M_isComplete (d : Nat) (z : Nat → xC) (N B K' T O R D : List Nat) (laid : Int32) (len st many at' thr : Nat) (isK : Bool) (g : xH) (hT : T.length = 60) (hC : ∀ j, T.getD j 0 < 128) (hl : len ≤ 60) (hO : O.length = 120) :
    Ev xT (d + 4) N_M_isComplete [.ref 7] (hM z N B K' T O R D laid len st many at' thr isK g) (Rt (some (.int (bI (icF T len O).1))) (hM z N B K' T ((icF T len O).2.2.2) R D laid len st ((icF T len O).2.2.1) ((icF T len O).2.1) thr isK g)) NX := by
  refine Ev_intro t_M_isComplete (Nat.le_of_ble_eq_true rfl) ?_
  intro Q X hQ hX K hK
  show K 0 [some (.ref 7), none] [] _ 0 0
  have hq := hQ _ _ ⟨rfl, rfl⟩
  have loop : ∀ (j : Nat) (b : Bool) (at' many : Nat) (O : List Nat), len ≤ at' + j → O.length = 120 → (b = true → 2 * many ≤ at' + 1) → at' < 1000 →
      Q (some (.int (bI (icM T len j b at' many O).1))) (hM z N B K' T ((icM T len j b at' many O).2.2.2) R D laid len st ((icM T len j b at' many O).2.2.1) ((icM T len j b at' many O).2.1) thr isK g) → K 1 [some (.ref 7), some (.int (bI b))] [] (hM z N B K' T O R D laid len st many at' thr isK g) 0 0 := by
    intro j
    induction j with
    | zero =>
      intro b at' many O hj hO hb ha hq
      have f4 : K 4 [some (.ref 7), some (.int (bI b))] [] (hM z N B K' T O R D laid len st many at' thr isK g) 0 0 := by
        refine hK 4 _ _ _ _ _ _ _ _ rfl ?_
        dsimp only [k_M_isComplete_4, hN1, hB, hM1, hM, wpI, xop, xcall, xli, xlj, xlf, xld, xla, xlg, xst, xst2, xc1, pI, pJ, pF, pD, pR, pA, p1, p0, xpop, xpush, xsm, xhas, xif, xic, xsw, xai, xal, xhi, xhv, xrf, xret, xrtl, xrtf, xrtd, xrta, xrtv, xfit, xnew, cond_true, cond_false, f40, f41, f42, f43, List.length_cons, List.length_nil, Nat.reduceAdd, Nat.reduceSub, Nat.reduceMul, Nat.reduceBEq, List.map_cons, List.map_nil, List.headD_cons, List.getElem?_cons_zero, List.getElem?_cons_succ, List.set_cons_zero, List.set_cons_succ]
        exact ⟨bI_01 _, Nat.le_refl _, Nat.le_refl _, hq⟩
      refine hK 1 _ _ _ _ _ _ _ _ rfl ?_
      dsimp only [k_M_isComplete_1, hN1, hB, hM1, hM, wpI, xop, xcall, xli, xlj, xlf, xld, xla, xlg, xst, xst2, xc1, pI, pJ, pF, pD, pR, pA, p1, p0, xpop, xpush, xsm, xhas, xif, xic, xsw, xai, xal, xhi, xhv, xrf, xret, xrtl, xrtf, xrtd, xrta, xrtv, xfit, xnew, cond_true, cond_false, f40, f41, f42, f43, List.length_cons, List.length_nil, Nat.reduceAdd, Nat.reduceSub, Nat.reduceMul, Nat.reduceBEq, List.map_cons, List.map_nil, List.headD_cons, List.getElem?_cons_zero, List.getElem?_cons_succ, List.set_cons_zero, List.set_cons_succ]
      try simp (disch := omega) only [nI_add, n_and, n_or, n_xor, n_i31, nI_leI, nI_ltI, n_e0, n_eq, n_m1e, n_l0, n_g0, n_p0, n_q0, n_cl, n_in, n_sub, n_shr, n_shl, n_div, bI_0, n_01, n_11, bI_or, not_false_eq_true, forall_const, not_true_eq_false, false_imp_iff, true_imp_iff]
      exact ⟨fun _ => f4, fun _ => ⟨fun _ => f4, fun y => absurd y (by omega)⟩⟩
    | succ j ih =>
      intro b at' many O hj hO hb ha hq
      have f4 : ¬ (b = true ∧ at' < len) → K 4 [some (.ref 7), some (.int (bI b))] [] (hM z N B K' T O R D laid len st many at' thr isK g) 0 0 := by
        intro e
        rw [icM, if_neg e] at hq
        refine hK 4 _ _ _ _ _ _ _ _ rfl ?_
        dsimp only [k_M_isComplete_4, hN1, hB, hM1, hM, wpI, xop, xcall, xli, xlj, xlf, xld, xla, xlg, xst, xst2, xc1, pI, pJ, pF, pD, pR, pA, p1, p0, xpop, xpush, xsm, xhas, xif, xic, xsw, xai, xal, xhi, xhv, xrf, xret, xrtl, xrtf, xrtd, xrta, xrtv, xfit, xnew, cond_true, cond_false, f40, f41, f42, f43, List.length_cons, List.length_nil, Nat.reduceAdd, Nat.reduceSub, Nat.reduceMul, Nat.reduceBEq, List.map_cons, List.map_nil, List.headD_cons, List.getElem?_cons_zero, List.getElem?_cons_succ, List.set_cons_zero, List.set_cons_succ]
        exact ⟨bI_01 _, Nat.le_refl _, Nat.le_refl _, hq⟩
      refine hK 1 _ _ _ _ _ _ _ _ rfl ?_
      dsimp only [k_M_isComplete_1, hN1, hB, hM1, hM, wpI, xop, xcall, xli, xlj, xlf, xld, xla, xlg, xst, xst2, xc1, pI, pJ, pF, pD, pR, pA, p1, p0, xpop, xpush, xsm, xhas, xif, xic, xsw, xai, xal, xhi, xhv, xrf, xret, xrtl, xrtf, xrtd, xrta, xrtv, xfit, xnew, cond_true, cond_false, f40, f41, f42, f43, List.length_cons, List.length_nil, Nat.reduceAdd, Nat.reduceSub, Nat.reduceMul, Nat.reduceBEq, List.map_cons, List.map_nil, List.headD_cons, List.getElem?_cons_zero, List.getElem?_cons_succ, List.set_cons_zero, List.set_cons_succ]
      try simp (disch := omega) only [nI_add, n_and, n_or, n_xor, n_i31, nI_leI, nI_ltI, n_e0, n_eq, n_m1e, n_l0, n_g0, n_p0, n_q0, n_cl, n_in, n_sub, n_shr, n_shl, n_div, bI_0, n_01, n_11, bI_or, not_false_eq_true, forall_const, not_true_eq_false, false_imp_iff, true_imp_iff]
      refine ⟨fun y => f4 (by rintro ⟨q, _⟩; rw [y] at q; exact Bool.noConfusion q), fun y => ⟨fun y2 => f4 (by omega), fun y2 => ?_⟩⟩
      have eb := b_nf y
      have hm2 := hb eb
      rw [icM, if_pos ⟨eb, by omega⟩] at hq
      have f2 : ¬ ltr T len at' = 59 → K 2 [some (.ref 7), some (.int (bI b))] [] (hM z N B K' T O R D laid len st many at' thr isK g) 0 0 := by
        intro e
        rw [if_neg e] at hq
        refine hK 2 _ _ _ _ _ _ _ _ rfl ?_
        dsimp only [k_M_isComplete_2, hN1, hB, hM1, hM, wpI, xop, xcall, xli, xlj, xlf, xld, xla, xlg, xst, xst2, xc1, pI, pJ, pF, pD, pR, pA, p1, p0, xpop, xpush, xsm, xhas, xif, xic, xsw, xai, xal, xhi, xhv, xrf, xret, xrtl, xrtf, xrtd, xrta, xrtv, xfit, xnew, cond_true, cond_false, f40, f41, f42, f43, List.length_cons, List.length_nil, Nat.reduceAdd, Nat.reduceSub, Nat.reduceMul, Nat.reduceBEq, List.map_cons, List.map_nil, List.headD_cons, List.getElem?_cons_zero, List.getElem?_cons_succ, List.set_cons_zero, List.set_cons_succ]
        refine hK 3 _ _ _ _ _ _ _ _ rfl ?_
        dsimp only [k_M_isComplete_3, hN1, hB, hM1, hM, wpI, xop, xcall, xli, xlj, xlf, xld, xla, xlg, xst, xst2, xc1, pI, pJ, pF, pD, pR, pA, p1, p0, xpop, xpush, xsm, xhas, xif, xic, xsw, xai, xal, xhi, xhv, xrf, xret, xrtl, xrtf, xrtd, xrta, xrtv, xfit, xnew, cond_true, cond_false, f40, f41, f42, f43, List.length_cons, List.length_nil, Nat.reduceAdd, Nat.reduceSub, Nat.reduceMul, Nat.reduceBEq, List.map_cons, List.map_nil, List.headD_cons, List.getElem?_cons_zero, List.getElem?_cons_succ, List.set_cons_zero, List.set_cons_succ]
        refine hK 1 _ _ _ _ _ _ _ _ rfl ?_
        dsimp only [k_M_isComplete_1, hN1, hB, hM1, hM, wpI, xop, xcall, xli, xlj, xlf, xld, xla, xlg, xst, xst2, xc1, pI, pJ, pF, pD, pR, pA, p1, p0, xpop, xpush, xsm, xhas, xif, xic, xsw, xai, xal, xhi, xhv, xrf, xret, xrtl, xrtf, xrtd, xrta, xrtv, xfit, xnew, cond_true, cond_false, f40, f41, f42, f43, List.length_cons, List.length_nil, Nat.reduceAdd, Nat.reduceSub, Nat.reduceMul, Nat.reduceBEq, List.map_cons, List.map_nil, List.headD_cons, List.getElem?_cons_zero, List.getElem?_cons_succ, List.set_cons_zero, List.set_cons_succ]
        refine ⟨fun _ => ?_, fun y => absurd (by decide) y⟩
        refine hK 4 _ _ _ _ _ _ _ _ rfl ?_
        dsimp only [k_M_isComplete_4, hN1, hB, hM1, hM, wpI, xop, xcall, xli, xlj, xlf, xld, xla, xlg, xst, xst2, xc1, pI, pJ, pF, pD, pR, pA, p1, p0, xpop, xpush, xsm, xhas, xif, xic, xsw, xai, xal, xhi, xhv, xrf, xret, xrtl, xrtf, xrtd, xrta, xrtv, xfit, xnew, cond_true, cond_false, f40, f41, f42, f43, List.length_cons, List.length_nil, Nat.reduceAdd, Nat.reduceSub, Nat.reduceMul, Nat.reduceBEq, List.map_cons, List.map_nil, List.headD_cons, List.getElem?_cons_zero, List.getElem?_cons_succ, List.set_cons_zero, List.set_cons_succ]
        exact ⟨by decide, Nat.le_refl _, Nat.le_refl _, hq⟩
      refine Ev_use (ev_M_accepts _ 59 59 z N B K' T O R D laid len st many at' thr isK g hT hC hl (by omega) (by decide) (by decide) (by decide)) ?_
      dsimp only [hN1, hB, hM1, hM, wpI, xop, xcall, xli, xlj, xlf, xld, xla, xlg, xst, xst2, xc1, pI, pJ, pF, pD, pR, pA, p1, p0, xpop, xpush, xsm, xhas, xif, xic, xsw, xai, xal, xhi, xhv, xrf, xret, xrtl, xrtf, xrtd, xrta, xrtv, xfit, xnew, cond_true, cond_false, f40, f41, f42, f43, List.length_cons, List.length_nil, Nat.reduceAdd, Nat.reduceSub, Nat.reduceMul, Nat.reduceBEq, List.map_cons, List.map_nil, List.headD_cons, List.getElem?_cons_zero, List.getElem?_cons_succ, List.set_cons_zero, List.set_cons_succ]
      by_cases e : ltr T len at' = 59
      · rw [acB_t (by omega), acN_t (by omega)]
        rw [if_pos e] at hq
        refine ⟨fun y => absurd y (by decide), fun _ => ?_⟩
        refine Ev_use (ev_M_reads _ z N B K' T O R D laid len st many (at' + 1) thr isK g hT hC hl (by omega) hO (by omega)) ?_
        dsimp only [hN1, hB, hM1, hM, wpI, xop, xcall, xli, xlj, xlf, xld, xla, xlg, xst, xst2, xc1, pI, pJ, pF, pD, pR, pA, p1, p0, xpop, xpush, xsm, xhas, xif, xic, xsw, xai, xal, xhi, xhv, xrf, xret, xrtl, xrtf, xrtd, xrta, xrtv, xfit, xnew, cond_true, cond_false, f40, f41, f42, f43, List.length_cons, List.length_nil, Nat.reduceAdd, Nat.reduceSub, Nat.reduceMul, Nat.reduceBEq, List.map_cons, List.map_nil, List.headD_cons, List.getElem?_cons_zero, List.getElem?_cons_succ, List.set_cons_zero, List.set_cons_succ]
        have r1 := rdM_at T len (at' + 1) many O
        have r2 : (rdM T len (at' + 1) many O).2.2.length = 120 := rdM_len T len (at' + 1) many O hO
        have go3 : ∀ b' : Bool, b' = (rdM T len (at' + 1) many O).1 → K 3 [some (.ref 7), some (.int (bI b))] [.int (bI b')] (hM z N B K' T ((rdM T len (at' + 1) many O).2.2) R D laid len st (if b' = true then many + 1 else many) ((rdM T len (at' + 1) many O).2.1) thr isK g) 0 0 := by
          intro b' hb'
          rw [← hb'] at hq
          refine hK 3 _ _ _ _ _ _ _ _ rfl ?_
          dsimp only [k_M_isComplete_3, hN1, hB, hM1, hM, wpI, xop, xcall, xli, xlj, xlf, xld, xla, xlg, xst, xst2, xc1, pI, pJ, pF, pD, pR, pA, p1, p0, xpop, xpush, xsm, xhas, xif, xic, xsw, xai, xal, xhi, xhv, xrf, xret, xrtl, xrtf, xrtd, xrta, xrtv, xfit, xnew, cond_true, cond_false, f40, f41, f42, f43, List.length_cons, List.length_nil, Nat.reduceAdd, Nat.reduceSub, Nat.reduceMul, Nat.reduceBEq, List.map_cons, List.map_nil, List.headD_cons, List.getElem?_cons_zero, List.getElem?_cons_succ, List.set_cons_zero, List.set_cons_succ]
          refine ih b' _ _ _ (by omega) r2 (fun q => ?_) (by omega) hq
          have := r1.2.2 (hb' ▸ q)
          rw [if_pos q]
          omega
        rw [bI_0]
        refine ⟨fun y3 => ?_, fun y3 => ?_⟩
        · rw [y3]
          refine hK 2 _ _ _ _ _ _ _ _ rfl ?_
          dsimp only [k_M_isComplete_2, hN1, hB, hM1, hM, wpI, xop, xcall, xli, xlj, xlf, xld, xla, xlg, xst, xst2, xc1, pI, pJ, pF, pD, pR, pA, p1, p0, xpop, xpush, xsm, xhas, xif, xic, xsw, xai, xal, xhi, xhv, xrf, xret, xrtl, xrtf, xrtd, xrta, xrtv, xfit, xnew, cond_true, cond_false, f40, f41, f42, f43, List.length_cons, List.length_nil, Nat.reduceAdd, Nat.reduceSub, Nat.reduceMul, Nat.reduceBEq, List.map_cons, List.map_nil, List.headD_cons, List.getElem?_cons_zero, List.getElem?_cons_succ, List.set_cons_zero, List.set_cons_succ]
          exact go3 false y3.symm
        · rw [b_nf y3]
          exact go3 true (b_nf y3).symm
      · rw [acB_f (by omega), acN_f (by omega)]
        refine ⟨fun _ => f2 e, fun y => absurd (by decide) y⟩
  have r1 := rdM_at T len 0 0 O
  refine hK 0 _ _ _ _ _ _ _ _ rfl ?_
  dsimp only [k_M_isComplete_0, hN1, hB, hM1, hM, wpI, xop, xcall, xli, xlj, xlf, xld, xla, xlg, xst, xst2, xc1, pI, pJ, pF, pD, pR, pA, p1, p0, xpop, xpush, xsm, xhas, xif, xic, xsw, xai, xal, xhi, xhv, xrf, xret, xrtl, xrtf, xrtd, xrta, xrtv, xfit, xnew, cond_true, cond_false, f40, f41, f42, f43, List.length_cons, List.length_nil, Nat.reduceAdd, Nat.reduceSub, Nat.reduceMul, Nat.reduceBEq, List.map_cons, List.map_nil, List.headD_cons, List.getElem?_cons_zero, List.getElem?_cons_succ, List.set_cons_zero, List.set_cons_succ]
  refine Ev_use (ev_M_reads _ z N B K' T O R D laid len st 0 0 thr isK g hT hC hl (by omega) hO (by omega)) ?_
  dsimp only [hN1, hB, hM1, hM, wpI, xop, xcall, xli, xlj, xlf, xld, xla, xlg, xst, xst2, xc1, pI, pJ, pF, pD, pR, pA, p1, p0, xpop, xpush, xsm, xhas, xif, xic, xsw, xai, xal, xhi, xhv, xrf, xret, xrtl, xrtf, xrtd, xrta, xrtv, xfit, xnew, cond_true, cond_false, f40, f41, f42, f43, List.length_cons, List.length_nil, Nat.reduceAdd, Nat.reduceSub, Nat.reduceMul, Nat.reduceBEq, List.map_cons, List.map_nil, List.headD_cons, List.getElem?_cons_zero, List.getElem?_cons_succ, List.set_cons_zero, List.set_cons_succ]
  refine loop 61 _ _ _ _ (by omega) (rdM_len T len 0 0 O hO) (fun q => ?_) (by omega) hq
  have := r1.2.2 q
  rw [if_pos q]
  omega
set_option maxRecDepth 100000 in
set_option maxHeartbeats 4000000 in
theorem ev_M_firstError (d : Nat) (z : Nat → xC) (N B K' T O R D : List Nat) (laid : Int32) (len st many at' thr : Nat) (isK : Bool) (g : xH) (hT : T.length = 60) (hC : ∀ j, T.getD j 0 < 128) (hl : len ≤ 60) (hO : O.length = 120) :
    Ev xT (d + 5) N_M_firstError [.ref 7] (hM z N B K' T O R D laid len st many at' thr isK g) (Rt (some (.int (nI (icF T len O).2.1))) (hM z N B K' T ((icF T len O).2.2.2) R D laid len st ((icF T len O).2.2.1) ((icF T len O).2.1) 0 isK g)) NX := by
  refine Ev_intro t_M_firstError (Nat.le_of_ble_eq_true rfl) ?_
  intro Q X hQ hX K hK
  show K 0 [some (.ref 7), none] [] _ 0 0
  have hq := hQ _ _ ⟨rfl, rfl⟩
  refine hK 0 _ _ _ _ _ _ _ _ rfl ?_
  dsimp only [k_M_firstError_0, hN1, hB, hM1, hM, wpI, xop, xcall, xli, xlj, xlf, xld, xla, xlg, xst, xst2, xc1, pI, pJ, pF, pD, pR, pA, p1, p0, xpop, xpush, xsm, xhas, xif, xic, xsw, xai, xal, xhi, xhv, xrf, xret, xrtl, xrtf, xrtd, xrta, xrtv, xfit, xnew, cond_true, cond_false, f40, f41, f42, f43, List.length_cons, List.length_nil, Nat.reduceAdd, Nat.reduceSub, Nat.reduceMul, Nat.reduceBEq, List.map_cons, List.map_nil, List.headD_cons, List.getElem?_cons_zero, List.getElem?_cons_succ, List.set_cons_zero, List.set_cons_succ]
  refine Ev_use (ev_M_isComplete _ z N B K' T O R D laid len st many at' 0 isK g hT hC hl hO) ?_
  dsimp only [hN1, hB, hM1, hM, wpI, xop, xcall, xli, xlj, xlf, xld, xla, xlg, xst, xst2, xc1, pI, pJ, pF, pD, pR, pA, p1, p0, xpop, xpush, xsm, xhas, xif, xic, xsw, xai, xal, xhi, xhv, xrf, xret, xrtl, xrtf, xrtd, xrta, xrtv, xfit, xnew, cond_true, cond_false, f40, f41, f42, f43, List.length_cons, List.length_nil, Nat.reduceAdd, Nat.reduceSub, Nat.reduceMul, Nat.reduceBEq, List.map_cons, List.map_nil, List.headD_cons, List.getElem?_cons_zero, List.getElem?_cons_succ, List.set_cons_zero, List.set_cons_succ]
  first | exact hq | exact ⟨Nat.le_refl _, hq⟩ | exact ⟨Nat.le_refl _, Nat.le_refl _, hq⟩ | exact ⟨Or.inl rfl, Nat.le_refl _, Nat.le_refl _, hq⟩ | exact ⟨Or.inr rfl, Nat.le_refl _, Nat.le_refl _, hq⟩
