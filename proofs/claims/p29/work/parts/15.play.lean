/-! ===== Play: where a shape stands ===== -/
theorem n_gm1 {a : Nat} (h : a < 2 ^ 31) : -1 < nI a := Int32.lt_of_lt_of_le (show (-1 : Int32) < 0 by decide) (nI_pos' h)
theorem rowI_lt {a k : Nat} (ha : a < 2 ^ 31) (hk : k < 2 ^ 31) : rowI k < nI a ↔ k ≤ a := by
  cases k with
  | zero => exact ⟨fun _ => Nat.zero_le _, fun _ => n_gm1 ha⟩
  | succ k => exact nI_ltI (by omega) ha
theorem rowI_pos {k : Nat} (h : 0 < k) : rowI k = nI (k - 1) := by
  cases k with
  | zero => exact absurd h (by decide)
  | succ k => rfl
def gS (i : Nat) : Nat := shapesN.getD i 0
theorem shp_at {i : Nat} (h : i < 132) : (shapesN.map nI).getD i 0 = nI (gS i) := by
  unfold gS
  rw [List.getD_eq_getElem?_getD, List.getElem?_map, List.getD_eq_getElem?_getD, List.getElem?_eq_getElem (by rw [shapes_len]; exact h)]
  rfl
theorem gS_lt (i : Nat) : gS i < 32768 := by
  have key : shapesN.all (fun x => Nat.blt x 32768) = true := by decide +kernel
  unfold gS
  rw [List.getD_eq_getElem?_getD]
  cases e : shapesN[i]? with
  | none => decide
  | some x => exact Nat.le_of_ble_eq_true (List.all_eq_true.mp key x (List.mem_of_getElem? e))
def bsN (m : Nat) : Nat → Nat → Nat → Option Nat
  | 0, _, _ => none
  | f + 1, lo, hi => if hi ≤ lo then none else if gS ((lo + (hi - 1)) / 2) = m then some ((lo + (hi - 1)) / 2) else
    if gS ((lo + (hi - 1)) / 2) < m then bsN m f ((lo + (hi - 1)) / 2 + 1) hi else bsN m f lo ((lo + (hi - 1)) / 2)
theorem bsN_lt (m : Nat) : ∀ (f lo hi i : Nat), hi ≤ 132 → bsN m f lo hi = some i → i < 132 ∧ gS i = m
  | 0, _, _, _, _, h => by simp [bsN] at h
  | f + 1, lo, hi, i, hh, h => by
    rw [bsN] at h
    by_cases h1 : hi ≤ lo
    · rw [if_pos h1] at h; simp at h
    · rw [if_neg h1] at h
      by_cases h2 : gS ((lo + (hi - 1)) / 2) = m
      · rw [if_pos h2] at h
        have h := Option.some.inj h
        subst h
        exact ⟨by omega, h2⟩
      · rw [if_neg h2] at h
        by_cases h3 : gS ((lo + (hi - 1)) / 2) < m
        · rw [if_pos h3] at h; exact bsN_lt m f _ _ i hh h
        · rw [if_neg h3] at h; exact bsN_lt m f _ _ i (by omega) h
def slotN (m : Nat) : Option Nat := bsN m 132 0 132
def slotO (t : Nat) : Option Nat → Int32
  | some i => nI (2 * i + t)
  | none => -1
def slotI (t m : Nat) : Int32 := slotO t (slotN m)
set_option maxRecDepth 100000 in
set_option maxHeartbeats 4000000 in
theorem ev_slotOf (d p a t m : Nat) (h : xH) (vs : List Value) (hp : h[p]? = some (5, [], .ref a :: vs)) (ha : h[a]? = some (0, shapesN.map nI, [])) (ha2 : a < 1000) (ht : t < 2) (hm : m < 32768) :
    Ev xT (d + 1) N_L_slotOf [.ref p, .int (nI t), .int (nI m)] h (Rt (some (.int (slotI t m))) h) NX := by
  refine Ev_intro t_L_slotOf (Nat.le_of_ble_eq_true rfl) ?_
  intro Q X hQ hX K hK
  show K 0 [some (.ref p), some (.int (nI t)), some (.int (nI m)), none, none, none, none] [] _ 0 0
  have hq := hQ _ _ ⟨rfl, rfl⟩
  unfold slotI slotN at hq
  have none5 : ∀ lo hi k L6, Q (some (.int (-1))) h → K 5 [some (.ref p), some (.int (nI t)), some (.int (nI m)), some (.int lo), some (.int hi), some (.int k), L6] [] h 0 0 := by
    intro lo hi k L6 hq
    refine hK 5 _ _ _ _ _ _ _ _ rfl ?_
    dsimp only [k_L_slotOf_5, wpI, xop, xcall, xli, xlj, xlf, xld, xla, xlg, xst, xst2, xc1, pI, pJ, pF, pD, pR, pA, p1, p0, xpop, xpush, xsm, xhas, xif, xic, xsw, xrf, xret, xrtl, xrtf, xrtd, xrta, xrtv, xfit, xnew, cond_true, cond_false, f40, f41, f42, f43, List.length_cons, List.length_nil, Nat.reduceAdd, Nat.reduceSub, Nat.reduceMul, Nat.reduceBEq, List.map_cons, List.map_nil, List.headD_cons, List.getElem?_cons_zero, List.getElem?_cons_succ, List.set_cons_zero, List.set_cons_succ]
    exact ⟨Nat.le_refl _, Nat.le_refl _, hq⟩
  have loop : ∀ (f k lo hi : Nat) (L6 : Option Value), k + f = 132 → hi ≤ 132 → lo ≤ 132 → Q (some (.int (slotO t (bsN m f lo hi)))) h →
      K 1 [some (.ref p), some (.int (nI t)), some (.int (nI m)), some (.int (nI lo)), some (.int (rowI hi)), some (.int (nI k)), L6] [] h 0 0 := by
    intro f
    induction f with
    | zero =>
      intro k lo hi L6 hk hh hl hq
      refine hK 1 _ _ _ _ _ _ _ _ rfl ?_
      dsimp only [k_L_slotOf_1, wpI, xop, xcall, xli, xlj, xlf, xld, xla, xlg, xst, xst2, xc1, pI, pJ, pF, pD, pR, pA, p1, p0, xpop, xpush, xsm, xhas, xif, xic, xsw, xrf, xret, xrtl, xrtf, xrtd, xrta, xrtv, xfit, xnew, cond_true, cond_false, f40, f41, f42, f43, List.length_cons, List.length_nil, Nat.reduceAdd, Nat.reduceSub, Nat.reduceMul, Nat.reduceBEq, List.map_cons, List.map_nil, List.headD_cons, List.getElem?_cons_zero, List.getElem?_cons_succ, List.set_cons_zero, List.set_cons_succ]
      refine xhv_of hp ?_
      dsimp only [wpI, xop, xcall, xli, xlj, xlf, xld, xla, xlg, xst, xst2, xc1, pI, pJ, pF, pD, pR, pA, p1, p0, xpop, xpush, xsm, xhas, xif, xic, xsw, xrf, xret, xrtl, xrtf, xrtd, xrta, xrtv, xfit, xnew, cond_true, cond_false, f40, f41, f42, f43, List.length_cons, List.length_nil, Nat.reduceAdd, Nat.reduceSub, Nat.reduceMul, Nat.reduceBEq, List.map_cons, List.map_nil, List.headD_cons, List.getElem?_cons_zero, List.getElem?_cons_succ, List.set_cons_zero, List.set_cons_succ]
      refine xal_of ha2 ha ?_
      rw [List.length_map, shapes_len]
      try simp (disch := omega) only [nI_add, n_and, n_or, n_xor, n_i31, nI_leI, nI_ltI, n_e0, n_eq, n_m1e, n_l0, n_g0, n_p0, n_q0, n_cl, n_in, n_sub, n_shr, n_shl, n_div, bI_0, n_01, n_11, bI_or, not_false_eq_true, forall_const, not_true_eq_false, false_imp_iff, true_imp_iff]
      exact br_t (by omega) (none5 _ _ _ _ hq)
    | succ f ih =>
      intro k lo hi L6 hk hh hl hq
      rw [bsN] at hq
      refine hK 1 _ _ _ _ _ _ _ _ rfl ?_
      dsimp only [k_L_slotOf_1, wpI, xop, xcall, xli, xlj, xlf, xld, xla, xlg, xst, xst2, xc1, pI, pJ, pF, pD, pR, pA, p1, p0, xpop, xpush, xsm, xhas, xif, xic, xsw, xrf, xret, xrtl, xrtf, xrtd, xrta, xrtv, xfit, xnew, cond_true, cond_false, f40, f41, f42, f43, List.length_cons, List.length_nil, Nat.reduceAdd, Nat.reduceSub, Nat.reduceMul, Nat.reduceBEq, List.map_cons, List.map_nil, List.headD_cons, List.getElem?_cons_zero, List.getElem?_cons_succ, List.set_cons_zero, List.set_cons_succ]
      refine xhv_of hp ?_
      dsimp only [wpI, xop, xcall, xli, xlj, xlf, xld, xla, xlg, xst, xst2, xc1, pI, pJ, pF, pD, pR, pA, p1, p0, xpop, xpush, xsm, xhas, xif, xic, xsw, xrf, xret, xrtl, xrtf, xrtd, xrta, xrtv, xfit, xnew, cond_true, cond_false, f40, f41, f42, f43, List.length_cons, List.length_nil, Nat.reduceAdd, Nat.reduceSub, Nat.reduceMul, Nat.reduceBEq, List.map_cons, List.map_nil, List.headD_cons, List.getElem?_cons_zero, List.getElem?_cons_succ, List.set_cons_zero, List.set_cons_succ]
      refine xal_of ha2 ha ?_
      rw [List.length_map, shapes_len]
      try simp (disch := omega) only [nI_add, n_and, n_or, n_xor, n_i31, nI_leI, nI_ltI, n_e0, n_eq, n_m1e, n_l0, n_g0, n_p0, n_q0, n_cl, n_in, n_sub, n_shr, n_shl, n_div, bI_0, n_01, n_11, bI_or, not_false_eq_true, forall_const, not_true_eq_false, false_imp_iff, true_imp_iff, rowI_lt]
      refine br_f (by omega) ⟨fun z => ?_, fun z => ?_⟩
      · rw [if_pos z] at hq
        exact none5 _ _ _ _ hq
      · rw [if_neg z] at hq
        rw [rowI_pos (by omega)]
        try simp (disch := omega) only [nI_add, n_and, n_or, n_xor, n_i31, nI_leI, nI_ltI, n_e0, n_eq, n_m1e, n_l0, n_g0, n_p0, n_q0, n_cl, n_in, n_sub, n_shr, n_shl, n_div, bI_0, n_01, n_11, bI_or, not_false_eq_true, forall_const, not_true_eq_false, false_imp_iff, true_imp_iff]
        refine ⟨by decide, ?_⟩
        have hg := gS_lt ((lo + (hi - 1)) / 2)
        have hmid : (lo + (hi - 1)) / 2 < hi := by omega
        have hmid2 : lo ≤ (lo + (hi - 1)) / 2 := by omega
        generalize (lo + (hi - 1)) / 2 = mid at *
        refine xhv_of hp ?_
        dsimp only [wpI, xop, xcall, xli, xlj, xlf, xld, xla, xlg, xst, xst2, xc1, pI, pJ, pF, pD, pR, pA, p1, p0, xpop, xpush, xsm, xhas, xif, xic, xsw, xrf, xret, xrtl, xrtf, xrtd, xrta, xrtv, xfit, xnew, cond_true, cond_false, f40, f41, f42, f43, List.length_cons, List.length_nil, Nat.reduceAdd, Nat.reduceSub, Nat.reduceMul, Nat.reduceBEq, List.map_cons, List.map_nil, List.headD_cons, List.getElem?_cons_zero, List.getElem?_cons_succ, List.set_cons_zero, List.set_cons_succ]
        refine xai_of ha2 ha ?_
        rw [List.length_map, shapes_len]
        try simp (disch := omega) only [nI_add, n_and, n_or, n_xor, n_i31, nI_leI, nI_ltI, n_e0, n_eq, n_m1e, n_l0, n_g0, n_p0, n_q0, n_cl, n_in, n_sub, n_shr, n_shl, n_div, bI_0, n_01, n_11, bI_or, not_false_eq_true, forall_const, not_true_eq_false, false_imp_iff, true_imp_iff]
        refine ⟨by omega, ?_⟩
        rw [shp_at (by omega)]
        try simp (disch := omega) only [nI_add, n_and, n_or, n_xor, n_i31, nI_leI, nI_ltI, n_e0, n_eq, n_m1e, n_l0, n_g0, n_p0, n_q0, n_cl, n_in, n_sub, n_shr, n_shl, n_div, bI_0, n_01, n_11, bI_or, not_false_eq_true, forall_const, not_true_eq_false, false_imp_iff, true_imp_iff]
        refine ⟨fun z2 => ?_, fun z2 => ?_⟩
        · rw [if_neg z2] at hq
          refine hK 2 _ _ _ _ _ _ _ _ rfl ?_
          dsimp only [k_L_slotOf_2, wpI, xop, xcall, xli, xlj, xlf, xld, xla, xlg, xst, xst2, xc1, pI, pJ, pF, pD, pR, pA, p1, p0, xpop, xpush, xsm, xhas, xif, xic, xsw, xrf, xret, xrtl, xrtf, xrtd, xrta, xrtv, xfit, xnew, cond_true, cond_false, f40, f41, f42, f43, List.length_cons, List.length_nil, Nat.reduceAdd, Nat.reduceSub, Nat.reduceMul, Nat.reduceBEq, List.map_cons, List.map_nil, List.headD_cons, List.getElem?_cons_zero, List.getElem?_cons_succ, List.set_cons_zero, List.set_cons_succ]
          refine xhv_of hp ?_
          dsimp only [wpI, xop, xcall, xli, xlj, xlf, xld, xla, xlg, xst, xst2, xc1, pI, pJ, pF, pD, pR, pA, p1, p0, xpop, xpush, xsm, xhas, xif, xic, xsw, xrf, xret, xrtl, xrtf, xrtd, xrta, xrtv, xfit, xnew, cond_true, cond_false, f40, f41, f42, f43, List.length_cons, List.length_nil, Nat.reduceAdd, Nat.reduceSub, Nat.reduceMul, Nat.reduceBEq, List.map_cons, List.map_nil, List.headD_cons, List.getElem?_cons_zero, List.getElem?_cons_succ, List.set_cons_zero, List.set_cons_succ]
          refine xai_of ha2 ha ?_
          rw [List.length_map, shapes_len]
          try simp (disch := omega) only [nI_add, n_and, n_or, n_xor, n_i31, nI_leI, nI_ltI, n_e0, n_eq, n_m1e, n_l0, n_g0, n_p0, n_q0, n_cl, n_in, n_sub, n_shr, n_shl, n_div, bI_0, n_01, n_11, bI_or, not_false_eq_true, forall_const, not_true_eq_false, false_imp_iff, true_imp_iff]
          refine ⟨by omega, ?_⟩
          rw [shp_at (by omega)]
          try simp (disch := omega) only [nI_add, n_and, n_or, n_xor, n_i31, nI_leI, nI_ltI, n_e0, n_eq, n_m1e, n_l0, n_g0, n_p0, n_q0, n_cl, n_in, n_sub, n_shr, n_shl, n_div, bI_0, n_01, n_11, bI_or, not_false_eq_true, forall_const, not_true_eq_false, false_imp_iff, true_imp_iff]
          refine ⟨fun z3 => ?_, fun z3 => ?_⟩
          · rw [if_neg (by omega)] at hq
            refine hK 3 _ _ _ _ _ _ _ _ rfl ?_
            dsimp only [k_L_slotOf_3, wpI, xop, xcall, xli, xlj, xlf, xld, xla, xlg, xst, xst2, xc1, pI, pJ, pF, pD, pR, pA, p1, p0, xpop, xpush, xsm, xhas, xif, xic, xsw, xrf, xret, xrtl, xrtf, xrtd, xrta, xrtv, xfit, xnew, cond_true, cond_false, f40, f41, f42, f43, List.length_cons, List.length_nil, Nat.reduceAdd, Nat.reduceSub, Nat.reduceMul, Nat.reduceBEq, List.map_cons, List.map_nil, List.headD_cons, List.getElem?_cons_zero, List.getElem?_cons_succ, List.set_cons_zero, List.set_cons_succ]
            rw [rowI_p]
            refine hK 4 _ _ _ _ _ _ _ _ rfl ?_
            dsimp only [k_L_slotOf_4, wpI, xop, xcall, xli, xlj, xlf, xld, xla, xlg, xst, xst2, xc1, pI, pJ, pF, pD, pR, pA, p1, p0, xpop, xpush, xsm, xhas, xif, xic, xsw, xrf, xret, xrtl, xrtf, xrtd, xrta, xrtv, xfit, xnew, cond_true, cond_false, f40, f41, f42, f43, List.length_cons, List.length_nil, Nat.reduceAdd, Nat.reduceSub, Nat.reduceMul, Nat.reduceBEq, List.map_cons, List.map_nil, List.headD_cons, List.getElem?_cons_zero, List.getElem?_cons_succ, List.set_cons_zero, List.set_cons_succ]
            try simp (disch := omega) only [nI_add, n_and, n_or, n_xor, n_i31, nI_leI, nI_ltI, n_e0, n_eq, n_m1e, n_l0, n_g0, n_p0, n_q0, n_cl, n_in, n_sub, n_shr, n_shl, n_div, bI_0, n_01, n_11, bI_or, not_false_eq_true, forall_const, not_true_eq_false, false_imp_iff, true_imp_iff]
            exact ih (k + 1) lo mid _ (by omega) (by omega) hl hq
          · rw [if_pos (by omega)] at hq
            rw [← rowI_pos (k := hi) (by omega)]
            refine hK 4 _ _ _ _ _ _ _ _ rfl ?_
            dsimp only [k_L_slotOf_4, wpI, xop, xcall, xli, xlj, xlf, xld, xla, xlg, xst, xst2, xc1, pI, pJ, pF, pD, pR, pA, p1, p0, xpop, xpush, xsm, xhas, xif, xic, xsw, xrf, xret, xrtl, xrtf, xrtd, xrta, xrtv, xfit, xnew, cond_true, cond_false, f40, f41, f42, f43, List.length_cons, List.length_nil, Nat.reduceAdd, Nat.reduceSub, Nat.reduceMul, Nat.reduceBEq, List.map_cons, List.map_nil, List.headD_cons, List.getElem?_cons_zero, List.getElem?_cons_succ, List.set_cons_zero, List.set_cons_succ]
            try simp (disch := omega) only [nI_add, n_and, n_or, n_xor, n_i31, nI_leI, nI_ltI, n_e0, n_eq, n_m1e, n_l0, n_g0, n_p0, n_q0, n_cl, n_in, n_sub, n_shr, n_shl, n_div, bI_0, n_01, n_11, bI_or, not_false_eq_true, forall_const, not_true_eq_false, false_imp_iff, true_imp_iff]
            exact ih (k + 1) (mid + 1) hi _ (by omega) hh (by omega) hq
        · rw [if_pos z2] at hq
          rw [pk_mul]
          try simp (disch := omega) only [nI_add, n_and, n_or, n_xor, n_i31, nI_leI, nI_ltI, n_e0, n_eq, n_m1e, n_l0, n_g0, n_p0, n_q0, n_cl, n_in, n_sub, n_shr, n_shl, n_div, bI_0, n_01, n_11, bI_or, not_false_eq_true, forall_const, not_true_eq_false, false_imp_iff, true_imp_iff]
          exact ⟨Nat.le_refl _, Nat.le_refl _, hq⟩
  refine hK 0 _ _ _ _ _ _ _ _ rfl ?_
  dsimp only [k_L_slotOf_0, wpI, xop, xcall, xli, xlj, xlf, xld, xla, xlg, xst, xst2, xc1, pI, pJ, pF, pD, pR, pA, p1, p0, xpop, xpush, xsm, xhas, xif, xic, xsw, xrf, xret, xrtl, xrtf, xrtd, xrta, xrtv, xfit, xnew, cond_true, cond_false, f40, f41, f42, f43, List.length_cons, List.length_nil, Nat.reduceAdd, Nat.reduceSub, Nat.reduceMul, Nat.reduceBEq, List.map_cons, List.map_nil, List.headD_cons, List.getElem?_cons_zero, List.getElem?_cons_succ, List.set_cons_zero, List.set_cons_succ]
  refine xhv_of hp ?_
  dsimp only [wpI, xop, xcall, xli, xlj, xlf, xld, xla, xlg, xst, xst2, xc1, pI, pJ, pF, pD, pR, pA, p1, p0, xpop, xpush, xsm, xhas, xif, xic, xsw, xrf, xret, xrtl, xrtf, xrtd, xrta, xrtv, xfit, xnew, cond_true, cond_false, f40, f41, f42, f43, List.length_cons, List.length_nil, Nat.reduceAdd, Nat.reduceSub, Nat.reduceMul, Nat.reduceBEq, List.map_cons, List.map_nil, List.headD_cons, List.getElem?_cons_zero, List.getElem?_cons_succ, List.set_cons_zero, List.set_cons_succ]
  refine xal_of ha2 ha ?_
  rw [List.length_map, shapes_len, rowI_p]
  exact loop 132 0 0 132 _ rfl (by decide) (by decide) hq
