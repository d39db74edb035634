/-! ===== the class: orders as a text ===== -/
/-- what the letter and the last two digits are when the text has been read up to a state -/
def inO (k l f n : Nat) : Prop := (k = 2 → l = 116) ∧ (k = 3 → l = 107 ∨ l = 112) ∧ (k = 4 → l = 116 ∧ n < 5) ∧ (10 ≤ k → (l = 107 ∨ l = 112) ∧ n = k - 10 ∧ k < 15) ∧ (k = 1 → (l = 116 → f < 5) ∧ (l = 107 ∨ l = 112 → f < 5 ∧ n < 5 - f)) ∧ l < 65536 ∧ n < 100
theorem inO_step {k k' c l f n : Nat} (h : nxN k c = some k') (hc : c < 65536) (hi : inO k l f n) :
    (c = 59 → k = 1 ∧ k' = 0) ∧ (¬ c = 59 → 48 ≤ c ∧ c ≤ 52 → inO k' l n (c - 48)) ∧ (¬ c = 59 → ¬ (48 ≤ c ∧ c ≤ 52) → inO k' c f n) := by
  unfold inO at *
  unfold nxN at h
  repeat' split at h
  all_goals first
    | (cases h; done)
    | (have h := Option.some.inj h
       subst h
       first
         | omega
         | (rename_i q
            have := dig_le q
            omega))
theorem rdN_none (C : List Nat) : ∀ (j i : Nat), rdN C j i none = none
  | 0, _ => rfl
  | j + 1, i => rdN_none C j (i + 1)
theorem rdN_s {C : List Nat} {j i k : Nat} (h : rdN C (j + 1) i (some k) = some 1) : ∃ k', nxN k (C.getD i 0) = some k' ∧ rdN C j (i + 1) (some k') = some 1 := by
  have h : rdN C j (i + 1) (nxN k (C.getD i 0)) = some 1 := h
  cases e : nxN k (C.getD i 0) with
  | none => rw [e, rdN_none] at h; exact absurd h (by simp)
  | some k' => rw [e] at h; exact ⟨k', rfl, h⟩
def dOr (C : List Nat) (tl : Nat) : Nat → Nat → Nat → Nat → Nat → Nat → List Nat → Nat × List Nat
  | 0, _, dn, _, _, _, N => (dn, N)
  | j + 1, i, dn, l, f, n, N => if (if i < tl then C.getD i 0 else 59) = 59 then (match doN N l f n with
      | none => (dn, N)
      | some N' => dOr C tl j (i + 1) (dn + 1) l f n N')
    else if 48 ≤ (if i < tl then C.getD i 0 else 59) ∧ (if i < tl then C.getD i 0 else 59) ≤ 52 then dOr C tl j (i + 1) dn l n ((if i < tl then C.getD i 0 else 59) - 48) N else dOr C tl j (i + 1) dn (if i < tl then C.getD i 0 else 59) f n N
theorem dOr_st (C : List Nat) (tl : Nat) (hc : ∀ i, C.getD i 0 < 65536) : ∀ (j i dn l f n k : Nat) (N : List Nat), i + j = tl + 1 → rdN C (tl - i) i (some k) = some 1 ∨ j = 0 → inO k l f n → stN N → stN (dOr C tl j i dn l f n N).2
  | 0, _, _, _, _, _, _, _, _, _, _, ok => ok
  | j + 1, i, dn, l, f, n, k, N, hj, hr, hi, ok => by
    have hr : rdN C (tl - i) i (some k) = some 1 := hr.elim id fun q => absurd q (by simp)
    rw [dOr]
    by_cases hlt : i < tl
    · rw [if_pos hlt]
      obtain ⟨k', e, hr'⟩ := rdN_s (j := tl - i - 1) (show rdN C (tl - i - 1 + 1) i (some k) = some 1 by rw [show tl - i - 1 + 1 = tl - i by omega]; exact hr)
      have st := inO_step e (hc i) hi
      have er : tl - i - 1 = tl - (i + 1) := by omega
      rw [er] at hr'
      by_cases h59 : C.getD i 0 = 59
      · rw [if_pos h59]
        have hk := st.1 h59
        have ho : okO l f n := hi.2.2.2.2.1 hk.1
        cases eo : doN N l f n with
        | none => exact ok
        | some N' => exact dOr_st C tl hc j (i + 1) _ _ _ _ k' N' (by omega) (Or.inl hr') (by rw [hk.2]; unfold inO at hi ⊢; omega) (st_do ok ho eo)
      · rw [if_neg h59]
        by_cases hd : 48 ≤ C.getD i 0 ∧ C.getD i 0 ≤ 52
        · rw [if_pos hd]
          exact dOr_st C tl hc j (i + 1) _ _ _ _ k' N (by omega) (Or.inl hr') (st.2.1 h59 hd) ok
        · rw [if_neg hd]
          exact dOr_st C tl hc j (i + 1) _ _ _ _ k' N (by omega) (Or.inl hr') (st.2.2 h59 hd) ok
    · rw [if_neg hlt, if_pos rfl]
      have hj0 : j = 0 := by omega
      have e0 : tl - i = 0 := by omega
      rw [e0] at hr
      have hk : k = 1 := Option.some.inj hr
      rw [hj0]
      have ho : okO l f n := hi.2.2.2.2.1 hk
      cases eo : doN N l f n with
      | none => exact ok
      | some N' => exact st_do ok ho eo
set_option maxRecDepth 100000 in
set_option maxHeartbeats 4000000 in
theorem ev_doOrders (d : Nat) (N V S C : List Nat) (P : List Value) (sv tl : Nat) (has : Bool) (g : xH) (ok : stN N) (hC : C.length = 60) (hc : ∀ i, C.getD i 0 < 65536) (ht : tl ≤ 60) (hr : rdN C tl 0 (some 0) = some 1) :
    Ev xT (d + 6) N_B_doOrders [.ref 0] (hB N V S C P sv tl has g) (Rt (some (.int (nI (dOr C tl (tl + 1) 0 0 59 0 0 N).1))) (hB (dOr C tl (tl + 1) 0 0 59 0 0 N).2 V S C P sv tl has g)) NX := by
  refine Ev_intro t_B_doOrders (Nat.le_of_ble_eq_true rfl) ?_
  intro Q X hQ hX K hK
  show K 0 [some (.ref 0), none, none, none, none, none, none] [] _ 0 0
  have hq := hQ _ _ ⟨rfl, rfl⟩
  have hN := hC
  have loop : ∀ (j i dn l f n k : Nat) (N : List Nat) (L6 : Option Value), i + j = tl + 1 → rdN C (tl - i) i (some k) = some 1 ∨ j = 0 → inO k l f n → stN N →
      Q (some (.int (nI (dOr C tl j i dn l f n N).1))) (hB (dOr C tl j i dn l f n N).2 V S C P sv tl has g) →
      K 1 [some (.ref 0), some (.int (nI dn)), some (.int (nI l)), some (.int (nI f)), some (.int (nI n)), some (.int (nI i)), L6] [] (hB N V S C P sv tl has g) 0 0 := by
    intro j
    induction j with
    | zero =>
      intro i dn l f n k N L6 hj hr hi ok hq
      refine hK 1 _ _ _ _ _ _ _ _ rfl ?_
      dsimp only [k_B_doOrders_1, hN1, hB, wpI, xop, xcall, xli, xlj, xlf, xld, xla, xlg, xst, xst2, xc1, pI, pJ, pF, pD, pR, pA, p1, p0, xpop, xpush, xsm, xhas, xif, xic, xsw, xai, xal, xhi, xhv, xrf, xret, xrtl, xrtf, xrtd, xrta, xrtv, xfit, xnew, cond_true, cond_false, f40, f41, f42, f43, List.length_cons, List.length_nil, Nat.reduceAdd, Nat.reduceSub, Nat.reduceMul, Nat.reduceBEq, List.map_cons, List.map_nil, List.headD_cons, List.getElem?_cons_zero, List.getElem?_cons_succ, List.set_cons_zero, List.set_cons_succ]
      try simp (disch := first | omega | (simp only [List.length_set]; omega)) only [nI_add, n_and, n_or, n_xor, n_i31, nI_leI, nI_ltI, n_e0, n_eq, n_m1e, n_l0, n_g0, n_p0, n_q0, n_cl, n_in, n_sub, n_shr, n_shl, n_div, bI_0, n_01, n_11, bI_or, not_false_eq_true, forall_const, not_true_eq_false, false_imp_iff, true_imp_iff, List.length_map, List.length_set, hN, nL_u, gs_eq, gs_ne, nI_set, Nat.reduceLT, true_and, and_true, pk_mul]
      refine br_t (by omega) ?_
      refine hK 8 _ _ _ _ _ _ _ _ rfl ?_
      dsimp only [k_B_doOrders_8, hN1, hB, wpI, xop, xcall, xli, xlj, xlf, xld, xla, xlg, xst, xst2, xc1, pI, pJ, pF, pD, pR, pA, p1, p0, xpop, xpush, xsm, xhas, xif, xic, xsw, xai, xal, xhi, xhv, xrf, xret, xrtl, xrtf, xrtd, xrta, xrtv, xfit, xnew, cond_true, cond_false, f40, f41, f42, f43, List.length_cons, List.length_nil, Nat.reduceAdd, Nat.reduceSub, Nat.reduceMul, Nat.reduceBEq, List.map_cons, List.map_nil, List.headD_cons, List.getElem?_cons_zero, List.getElem?_cons_succ, List.set_cons_zero, List.set_cons_succ]
      exact ⟨Nat.le_refl _, Nat.le_refl _, hq⟩
    | succ j ih =>
      intro i dn l f n k N L6 hj hr hi ok hq
      have hr : rdN C (tl - i) i (some k) = some 1 := hr.elim id fun q => absurd q (by simp)
      rw [dOr] at hq
      have hl : l < 65536 := hi.2.2.2.2.2.1
      have hn : n < 100 := hi.2.2.2.2.2.2
      have go4 : ∀ (N' : List Nat) (k' : Nat), doN N l f n = some N' → okO l f n → rdN C (tl - (i + 1)) (i + 1) (some k') = some 1 ∨ j = 0 → inO k' l f n → Q (some (.int (nI (dOr C tl j (i + 1) (dn + 1) l f n N').1))) (hB (dOr C tl j (i + 1) (dn + 1) l f n N').2 V S C P sv tl has g) →
          ∀ L6, K 4 [some (.ref 0), some (.int (nI dn)), some (.int (nI l)), some (.int (nI f)), some (.int (nI n)), some (.int (nI i)), L6] [] (hB N' V S C P sv tl has g) 0 0 := by
        intro N' k' e ho hr' hi' hq L6
        refine hK 4 _ _ _ _ _ _ _ _ rfl ?_
        dsimp only [k_B_doOrders_4, hN1, hB, wpI, xop, xcall, xli, xlj, xlf, xld, xla, xlg, xst, xst2, xc1, pI, pJ, pF, pD, pR, pA, p1, p0, xpop, xpush, xsm, xhas, xif, xic, xsw, xai, xal, xhi, xhv, xrf, xret, xrtl, xrtf, xrtd, xrta, xrtv, xfit, xnew, cond_true, cond_false, f40, f41, f42, f43, List.length_cons, List.length_nil, Nat.reduceAdd, Nat.reduceSub, Nat.reduceMul, Nat.reduceBEq, List.map_cons, List.map_nil, List.headD_cons, List.getElem?_cons_zero, List.getElem?_cons_succ, List.set_cons_zero, List.set_cons_succ]
        refine hK 7 _ _ _ _ _ _ _ _ rfl ?_
        dsimp only [k_B_doOrders_7, hN1, hB, wpI, xop, xcall, xli, xlj, xlf, xld, xla, xlg, xst, xst2, xc1, pI, pJ, pF, pD, pR, pA, p1, p0, xpop, xpush, xsm, xhas, xif, xic, xsw, xai, xal, xhi, xhv, xrf, xret, xrtl, xrtf, xrtd, xrta, xrtv, xfit, xnew, cond_true, cond_false, f40, f41, f42, f43, List.length_cons, List.length_nil, Nat.reduceAdd, Nat.reduceSub, Nat.reduceMul, Nat.reduceBEq, List.map_cons, List.map_nil, List.headD_cons, List.getElem?_cons_zero, List.getElem?_cons_succ, List.set_cons_zero, List.set_cons_succ]
        try simp (disch := omega) only [nI_add, n_and, n_or, n_xor, n_i31, nI_leI, nI_ltI, n_e0, n_eq, n_m1e, n_l0, n_g0, n_p0, n_q0, n_cl, n_in, n_sub, n_shr, n_shl, n_div, bI_0, n_01, n_11, bI_or, not_false_eq_true, forall_const, not_true_eq_false, false_imp_iff, true_imp_iff]
        exact ih (i + 1) (dn + 1) l f n k' N' _ (by omega) hr' hi' (st_do ok ho e) hq
      have go59 : ∀ k', okO l f n → rdN C (tl - (i + 1)) (i + 1) (some k') = some 1 ∨ j = 0 → inO k' l f n →
          Q (some (.int (nI (match doN N l f n with | none => (dn, N) | some N' => dOr C tl j (i + 1) (dn + 1) l f n N').1))) (hB (match doN N l f n with | none => (dn, N) | some N' => dOr C tl j (i + 1) (dn + 1) l f n N').2 V S C P sv tl has g) →
          K 3 [some (.ref 0), some (.int (nI dn)), some (.int (nI l)), some (.int (nI f)), some (.int (nI n)), some (.int (nI i)), L6] [.int (nI 59)] (hB N V S C P sv tl has g) 0 0 := by
        intro k' ho hr' hi' hq
        refine hK 3 _ _ _ _ _ _ _ _ rfl ?_
        dsimp only [k_B_doOrders_3, hN1, hB, wpI, xop, xcall, xli, xlj, xlf, xld, xla, xlg, xst, xst2, xc1, pI, pJ, pF, pD, pR, pA, p1, p0, xpop, xpush, xsm, xhas, xif, xic, xsw, xai, xal, xhi, xhv, xrf, xret, xrtl, xrtf, xrtd, xrta, xrtv, xfit, xnew, cond_true, cond_false, f40, f41, f42, f43, List.length_cons, List.length_nil, Nat.reduceAdd, Nat.reduceSub, Nat.reduceMul, Nat.reduceBEq, List.map_cons, List.map_nil, List.headD_cons, List.getElem?_cons_zero, List.getElem?_cons_succ, List.set_cons_zero, List.set_cons_succ]
        refine ⟨fun z => (z rfl).elim, fun _ => ?_⟩
        refine Ev_use (ev_doOrder _ N _ _ l f n ok hl hn ho) ?_
        dsimp only [hN1, hB, wpI, xop, xcall, xli, xlj, xlf, xld, xla, xlg, xst, xst2, xc1, pI, pJ, pF, pD, pR, pA, p1, p0, xpop, xpush, xsm, xhas, xif, xic, xsw, xai, xal, xhi, xhv, xrf, xret, xrtl, xrtf, xrtd, xrta, xrtv, xfit, xnew, cond_true, cond_false, f40, f41, f42, f43, List.length_cons, List.length_nil, Nat.reduceAdd, Nat.reduceSub, Nat.reduceMul, Nat.reduceBEq, List.map_cons, List.map_nil, List.headD_cons, List.getElem?_cons_zero, List.getElem?_cons_succ, List.set_cons_zero, List.set_cons_succ]
        cases e : doN N l f n with
        | none =>
          rw [e] at hq
          refine ⟨fun z => (z rfl).elim, fun _ => ?_⟩
          exact ⟨Nat.le_refl _, Nat.le_refl _, hq⟩
        | some N' =>
          rw [e] at hq
          refine ⟨fun _ => ?_, fun z => Bool.noConfusion ((bI_0 true).mp z)⟩
          exact go4 N' k' e ho hr' hi' hq _
      by_cases hlt : i < tl
      · rw [if_pos hlt] at hq
        obtain ⟨k', e, hr'⟩ := rdN_s (j := tl - i - 1) (show rdN C (tl - i - 1 + 1) i (some k) = some 1 by rw [show tl - i - 1 + 1 = tl - i by omega]; exact hr)
        have st := inO_step e (hc i) hi
        have er : tl - i - 1 = tl - (i + 1) := by omega
        rw [er] at hr'
        have hci := hc i
        refine hK 1 _ _ _ _ _ _ _ _ rfl ?_
        dsimp only [k_B_doOrders_1, hN1, hB, wpI, xop, xcall, xli, xlj, xlf, xld, xla, xlg, xst, xst2, xc1, pI, pJ, pF, pD, pR, pA, p1, p0, xpop, xpush, xsm, xhas, xif, xic, xsw, xai, xal, xhi, xhv, xrf, xret, xrtl, xrtf, xrtd, xrta, xrtv, xfit, xnew, cond_true, cond_false, f40, f41, f42, f43, List.length_cons, List.length_nil, Nat.reduceAdd, Nat.reduceSub, Nat.reduceMul, Nat.reduceBEq, List.map_cons, List.map_nil, List.headD_cons, List.getElem?_cons_zero, List.getElem?_cons_succ, List.set_cons_zero, List.set_cons_succ]
        try simp (disch := first | omega | (simp only [List.length_set]; omega)) only [nI_add, n_and, n_or, n_xor, n_i31, nI_leI, nI_ltI, n_e0, n_eq, n_m1e, n_l0, n_g0, n_p0, n_q0, n_cl, n_in, n_sub, n_shr, n_shl, n_div, bI_0, n_01, n_11, bI_or, not_false_eq_true, forall_const, not_true_eq_false, false_imp_iff, true_imp_iff, List.length_map, List.length_set, hN, nL_u, gs_eq, gs_ne, nI_set, Nat.reduceLT, true_and, and_true, pk_mul]
        refine br_f (by omega) (br_f (by omega) ⟨by omega, ?_⟩)
        by_cases h59 : C.getD i 0 = 59
        · rw [if_pos h59] at hq
          have hk := st.1 h59
          rw [h59]
          exact go59 k' (hi.2.2.2.2.1 hk.1) (Or.inl hr') (by rw [hk.2]; unfold inO at hi ⊢; omega) hq
        · rw [if_neg h59] at hq
          refine hK 3 _ _ _ _ _ _ _ _ rfl ?_
          dsimp only [k_B_doOrders_3, hN1, hB, wpI, xop, xcall, xli, xlj, xlf, xld, xla, xlg, xst, xst2, xc1, pI, pJ, pF, pD, pR, pA, p1, p0, xpop, xpush, xsm, xhas, xif, xic, xsw, xai, xal, xhi, xhv, xrf, xret, xrtl, xrtf, xrtd, xrta, xrtv, xfit, xnew, cond_true, cond_false, f40, f41, f42, f43, List.length_cons, List.length_nil, Nat.reduceAdd, Nat.reduceSub, Nat.reduceMul, Nat.reduceBEq, List.map_cons, List.map_nil, List.headD_cons, List.getElem?_cons_zero, List.getElem?_cons_succ, List.set_cons_zero, List.set_cons_succ]
          try simp (disch := omega) only [nI_add, n_and, n_or, n_xor, n_i31, nI_leI, nI_ltI, n_e0, n_eq, n_m1e, n_l0, n_g0, n_p0, n_q0, n_cl, n_in, n_sub, n_shr, n_shl, n_div, bI_0, n_01, n_11, bI_or, not_false_eq_true, forall_const, not_true_eq_false, false_imp_iff, true_imp_iff]
          refine ⟨fun _ => ?_, fun z => (h59 z).elim⟩
          have f6 : ¬ (48 ≤ C.getD i 0 ∧ C.getD i 0 ≤ 52) → K 6 [some (.ref 0), some (.int (nI dn)), some (.int (nI l)), some (.int (nI f)), some (.int (nI n)), some (.int (nI i)), some (.int (nI (C.getD i 0)))] [] (hB N V S C P sv tl has g) 0 0 := by
            intro hd
            rw [if_neg hd] at hq
            refine hK 6 _ _ _ _ _ _ _ _ rfl ?_
            dsimp only [k_B_doOrders_6, hN1, hB, wpI, xop, xcall, xli, xlj, xlf, xld, xla, xlg, xst, xst2, xc1, pI, pJ, pF, pD, pR, pA, p1, p0, xpop, xpush, xsm, xhas, xif, xic, xsw, xai, xal, xhi, xhv, xrf, xret, xrtl, xrtf, xrtd, xrta, xrtv, xfit, xnew, cond_true, cond_false, f40, f41, f42, f43, List.length_cons, List.length_nil, Nat.reduceAdd, Nat.reduceSub, Nat.reduceMul, Nat.reduceBEq, List.map_cons, List.map_nil, List.headD_cons, List.getElem?_cons_zero, List.getElem?_cons_succ, List.set_cons_zero, List.set_cons_succ]
            refine hK 7 _ _ _ _ _ _ _ _ rfl ?_
            dsimp only [k_B_doOrders_7, hN1, hB, wpI, xop, xcall, xli, xlj, xlf, xld, xla, xlg, xst, xst2, xc1, pI, pJ, pF, pD, pR, pA, p1, p0, xpop, xpush, xsm, xhas, xif, xic, xsw, xai, xal, xhi, xhv, xrf, xret, xrtl, xrtf, xrtd, xrta, xrtv, xfit, xnew, cond_true, cond_false, f40, f41, f42, f43, List.length_cons, List.length_nil, Nat.reduceAdd, Nat.reduceSub, Nat.reduceMul, Nat.reduceBEq, List.map_cons, List.map_nil, List.headD_cons, List.getElem?_cons_zero, List.getElem?_cons_succ, List.set_cons_zero, List.set_cons_succ]
            try simp (disch := omega) only [nI_add, n_and, n_or, n_xor, n_i31, nI_leI, nI_ltI, n_e0, n_eq, n_m1e, n_l0, n_g0, n_p0, n_q0, n_cl, n_in, n_sub, n_shr, n_shl, n_div, bI_0, n_01, n_11, bI_or, not_false_eq_true, forall_const, not_true_eq_false, false_imp_iff, true_imp_iff]
            exact ih (i + 1) dn _ f n k' N _ (by omega) (Or.inl hr') (st.2.2 h59 hd) ok hq
          refine hK 5 _ _ _ _ _ _ _ _ rfl ?_
          dsimp only [k_B_doOrders_5, hN1, hB, wpI, xop, xcall, xli, xlj, xlf, xld, xla, xlg, xst, xst2, xc1, pI, pJ, pF, pD, pR, pA, p1, p0, xpop, xpush, xsm, xhas, xif, xic, xsw, xai, xal, xhi, xhv, xrf, xret, xrtl, xrtf, xrtd, xrta, xrtv, xfit, xnew, cond_true, cond_false, f40, f41, f42, f43, List.length_cons, List.length_nil, Nat.reduceAdd, Nat.reduceSub, Nat.reduceMul, Nat.reduceBEq, List.map_cons, List.map_nil, List.headD_cons, List.getElem?_cons_zero, List.getElem?_cons_succ, List.set_cons_zero, List.set_cons_succ]
          try simp (disch := omega) only [nI_add, n_and, n_or, n_xor, n_i31, nI_leI, nI_ltI, n_e0, n_eq, n_m1e, n_l0, n_g0, n_p0, n_q0, n_cl, n_in, n_sub, n_shr, n_shl, n_div, bI_0, n_01, n_11, bI_or, not_false_eq_true, forall_const, not_true_eq_false, false_imp_iff, true_imp_iff]
          refine ⟨fun z => f6 (by omega), fun z => ⟨fun z2 => f6 (by omega), fun z2 => ?_⟩⟩
          have hd : 48 ≤ C.getD i 0 ∧ C.getD i 0 ≤ 52 := by omega
          rw [if_pos hd] at hq
          try simp (disch := omega) only [nI_add, n_and, n_or, n_xor, n_i31, nI_leI, nI_ltI, n_e0, n_eq, n_m1e, n_l0, n_g0, n_p0, n_q0, n_cl, n_in, n_sub, n_shr, n_shl, n_div, bI_0, n_01, n_11, bI_or, not_false_eq_true, forall_const, not_true_eq_false, false_imp_iff, true_imp_iff]
          refine hK 7 _ _ _ _ _ _ _ _ rfl ?_
          dsimp only [k_B_doOrders_7, hN1, hB, wpI, xop, xcall, xli, xlj, xlf, xld, xla, xlg, xst, xst2, xc1, pI, pJ, pF, pD, pR, pA, p1, p0, xpop, xpush, xsm, xhas, xif, xic, xsw, xai, xal, xhi, xhv, xrf, xret, xrtl, xrtf, xrtd, xrta, xrtv, xfit, xnew, cond_true, cond_false, f40, f41, f42, f43, List.length_cons, List.length_nil, Nat.reduceAdd, Nat.reduceSub, Nat.reduceMul, Nat.reduceBEq, List.map_cons, List.map_nil, List.headD_cons, List.getElem?_cons_zero, List.getElem?_cons_succ, List.set_cons_zero, List.set_cons_succ]
          try simp (disch := omega) only [nI_add, n_and, n_or, n_xor, n_i31, nI_leI, nI_ltI, n_e0, n_eq, n_m1e, n_l0, n_g0, n_p0, n_q0, n_cl, n_in, n_sub, n_shr, n_shl, n_div, bI_0, n_01, n_11, bI_or, not_false_eq_true, forall_const, not_true_eq_false, false_imp_iff, true_imp_iff]
          exact ih (i + 1) dn l n _ k' N _ (by omega) (Or.inl hr') (st.2.1 h59 hd) ok hq
      · rw [if_neg hlt, if_pos rfl] at hq
        have hj0 : j = 0 := by omega
        have e0 : tl - i = 0 := by omega
        rw [e0] at hr
        have hk : k = 1 := Option.some.inj hr
        refine hK 1 _ _ _ _ _ _ _ _ rfl ?_
        dsimp only [k_B_doOrders_1, hN1, hB, wpI, xop, xcall, xli, xlj, xlf, xld, xla, xlg, xst, xst2, xc1, pI, pJ, pF, pD, pR, pA, p1, p0, xpop, xpush, xsm, xhas, xif, xic, xsw, xai, xal, xhi, xhv, xrf, xret, xrtl, xrtf, xrtd, xrta, xrtv, xfit, xnew, cond_true, cond_false, f40, f41, f42, f43, List.length_cons, List.length_nil, Nat.reduceAdd, Nat.reduceSub, Nat.reduceMul, Nat.reduceBEq, List.map_cons, List.map_nil, List.headD_cons, List.getElem?_cons_zero, List.getElem?_cons_succ, List.set_cons_zero, List.set_cons_succ]
        try simp (disch := first | omega | (simp only [List.length_set]; omega)) only [nI_add, n_and, n_or, n_xor, n_i31, nI_leI, nI_ltI, n_e0, n_eq, n_m1e, n_l0, n_g0, n_p0, n_q0, n_cl, n_in, n_sub, n_shr, n_shl, n_div, bI_0, n_01, n_11, bI_or, not_false_eq_true, forall_const, not_true_eq_false, false_imp_iff, true_imp_iff, List.length_map, List.length_set, hN, nL_u, gs_eq, gs_ne, nI_set, Nat.reduceLT, true_and, and_true, pk_mul]
        refine br_f (by omega) (br_t (by omega) ?_)
        refine hK 2 _ _ _ _ _ _ _ _ rfl ?_
        dsimp only [k_B_doOrders_2, hN1, hB, wpI, xop, xcall, xli, xlj, xlf, xld, xla, xlg, xst, xst2, xc1, pI, pJ, pF, pD, pR, pA, p1, p0, xpop, xpush, xsm, xhas, xif, xic, xsw, xai, xal, xhi, xhv, xrf, xret, xrtl, xrtf, xrtd, xrta, xrtv, xfit, xnew, cond_true, cond_false, f40, f41, f42, f43, List.length_cons, List.length_nil, Nat.reduceAdd, Nat.reduceSub, Nat.reduceMul, Nat.reduceBEq, List.map_cons, List.map_nil, List.headD_cons, List.getElem?_cons_zero, List.getElem?_cons_succ, List.set_cons_zero, List.set_cons_succ]
        exact go59 0 (hi.2.2.2.2.1 hk) (Or.inr hj0) (by unfold inO at hi ⊢; omega) hq
  refine hK 0 _ _ _ _ _ _ _ _ rfl ?_
  dsimp only [k_B_doOrders_0, hN1, hB, wpI, xop, xcall, xli, xlj, xlf, xld, xla, xlg, xst, xst2, xc1, pI, pJ, pF, pD, pR, pA, p1, p0, xpop, xpush, xsm, xhas, xif, xic, xsw, xai, xal, xhi, xhv, xrf, xret, xrtl, xrtf, xrtd, xrta, xrtv, xfit, xnew, cond_true, cond_false, f40, f41, f42, f43, List.length_cons, List.length_nil, Nat.reduceAdd, Nat.reduceSub, Nat.reduceMul, Nat.reduceBEq, List.map_cons, List.map_nil, List.headD_cons, List.getElem?_cons_zero, List.getElem?_cons_succ, List.set_cons_zero, List.set_cons_succ]
  exact loop (tl + 1) 0 0 59 0 0 0 N _ (by omega) (Or.inl (by rw [Nat.sub_zero]; exact hr)) (by unfold inO; omega) ok hq
def obeyE (C : List Nat) (tl : Nat) : Nat := if rdN C tl 0 (some 0) = some 1 then 0 else 11
set_option maxRecDepth 100000 in
set_option maxHeartbeats 4000000 in
theorem ev_obey (d : Nat) (N V S C : List Nat) (P : List Value) (sv tl : Nat) (has : Bool) (g : xH) (ok : stN N) (hV : V.length = 108) (hs : sv ≤ 6) (hC : C.length = 60) (hc : ∀ i, C.getD i 0 < 65536) (ht : tl ≤ 60) :
    Ev xT (d + 7) N_B_obey [.ref 0] (hB N V S C P sv tl has g) (Ro (obeyE C tl) (some (.int (nI (dOr C tl (tl + 1) 0 0 59 0 0 N).1))) (hB (dOr C tl (tl + 1) 0 0 59 0 0 N).2 (saveV N V sv) S C P (saveS sv) 0 has g)) (Xo (obeyE C tl) (hB N V S C P sv tl has g)) := by
  refine Ev_intro t_B_obey (Nat.le_of_ble_eq_true rfl) ?_
  intro Q X hQ hX K hK
  show K 0 [some (.ref 0), none] [] _ 0 0
  have hN := ok.1
  refine hK 0 _ _ _ _ _ _ _ _ rfl ?_
  dsimp only [k_B_obey_0, hN1, hB, wpI, xop, xcall, xli, xlj, xlf, xld, xla, xlg, xst, xst2, xc1, pI, pJ, pF, pD, pR, pA, p1, p0, xpop, xpush, xsm, xhas, xif, xic, xsw, xai, xal, xhi, xhv, xrf, xret, xrtl, xrtf, xrtd, xrta, xrtv, xfit, xnew, cond_true, cond_false, f40, f41, f42, f43, List.length_cons, List.length_nil, Nat.reduceAdd, Nat.reduceSub, Nat.reduceMul, Nat.reduceBEq, List.map_cons, List.map_nil, List.headD_cons, List.getElem?_cons_zero, List.getElem?_cons_succ, List.set_cons_zero, List.set_cons_succ]
  refine Ev_use (ev_isComplete _ N V S C P sv tl has g hC hc ht) ?_
  dsimp only [hN1, hB, wpI, xop, xcall, xli, xlj, xlf, xld, xla, xlg, xst, xst2, xc1, pI, pJ, pF, pD, pR, pA, p1, p0, xpop, xpush, xsm, xhas, xif, xic, xsw, xai, xal, xhi, xhv, xrf, xret, xrtl, xrtf, xrtd, xrta, xrtv, xfit, xnew, cond_true, cond_false, f40, f41, f42, f43, List.length_cons, List.length_nil, Nat.reduceAdd, Nat.reduceSub, Nat.reduceMul, Nat.reduceBEq, List.map_cons, List.map_nil, List.headD_cons, List.getElem?_cons_zero, List.getElem?_cons_succ, List.set_cons_zero, List.set_cons_succ]
  rw [bI_0]
  refine ⟨fun z => ?_, fun z => ?_⟩
  · have z := beq_iff_eq.mp (b_nf z)
    have hq := hQ _ _ ⟨by unfold obeyE; rw [if_pos z], rfl, rfl⟩
    refine hK 1 _ _ _ _ _ _ _ _ rfl ?_
    dsimp only [k_B_obey_1, hN1, hB, wpI, xop, xcall, xli, xlj, xlf, xld, xla, xlg, xst, xst2, xc1, pI, pJ, pF, pD, pR, pA, p1, p0, xpop, xpush, xsm, xhas, xif, xic, xsw, xai, xal, xhi, xhv, xrf, xret, xrtl, xrtf, xrtd, xrta, xrtv, xfit, xnew, cond_true, cond_false, f40, f41, f42, f43, List.length_cons, List.length_nil, Nat.reduceAdd, Nat.reduceSub, Nat.reduceMul, Nat.reduceBEq, List.map_cons, List.map_nil, List.headD_cons, List.getElem?_cons_zero, List.getElem?_cons_succ, List.set_cons_zero, List.set_cons_succ]
    refine Ev_use (ev_save _ N V S C P sv tl has g hN hV hs) ?_
    dsimp only [hN1, hB, wpI, xop, xcall, xli, xlj, xlf, xld, xla, xlg, xst, xst2, xc1, pI, pJ, pF, pD, pR, pA, p1, p0, xpop, xpush, xsm, xhas, xif, xic, xsw, xai, xal, xhi, xhv, xrf, xret, xrtl, xrtf, xrtd, xrta, xrtv, xfit, xnew, cond_true, cond_false, f40, f41, f42, f43, List.length_cons, List.length_nil, Nat.reduceAdd, Nat.reduceSub, Nat.reduceMul, Nat.reduceBEq, List.map_cons, List.map_nil, List.headD_cons, List.getElem?_cons_zero, List.getElem?_cons_succ, List.set_cons_zero, List.set_cons_succ]
    refine Ev_use (ev_doOrders _ N (saveV N V sv) S C P (saveS sv) tl has g ok hC hc ht z) ?_
    dsimp only [hN1, hB, wpI, xop, xcall, xli, xlj, xlf, xld, xla, xlg, xst, xst2, xc1, pI, pJ, pF, pD, pR, pA, p1, p0, xpop, xpush, xsm, xhas, xif, xic, xsw, xai, xal, xhi, xhv, xrf, xret, xrtl, xrtf, xrtd, xrta, xrtv, xfit, xnew, cond_true, cond_false, f40, f41, f42, f43, List.length_cons, List.length_nil, Nat.reduceAdd, Nat.reduceSub, Nat.reduceMul, Nat.reduceBEq, List.map_cons, List.map_nil, List.headD_cons, List.getElem?_cons_zero, List.getElem?_cons_succ, List.set_cons_zero, List.set_cons_succ]
    exact ⟨Nat.zero_le _, Nat.zero_le _, hq⟩
  · have z := beq_eq_false_iff_ne.mp z
    have e : obeyE C tl = 11 := by unfold obeyE; rw [if_neg z]
    exact ⟨Nat.le_refl _, Nat.le_refl _, hX _ _ ⟨by rw [e]; decide, e.symm, rfl⟩⟩
