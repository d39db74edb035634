/-! the class: digest -/
set_option maxRecDepth 100000 in
set_option maxHeartbeats 4000000 in
theorem ev_count0 (d : Nat) (N V S C : List Nat) (P : List Value) (sv tl : Nat) (has : Bool) (g : xH) (k : Nat) (ok : stN N) (hk : k < 10) :
    Ev xT (d + 6) N_B_count [.ref 0, .int (nI k)] (hB N V S C P sv tl has g) (Rt (some (.int (cntR N sv (nI k)))) (hB N V S C P sv tl has g)) NX := by
  have key : ∀ k, k < 10 → cntE (nI k) = 0 := by decide +kernel
  exact Ev_mono (ev_count d N V S C P sv tl has g (nI k) ok) (fun v g q => ⟨q.2.1, q.2.2⟩) (fun _ g q => absurd (key k hk) q.1)
set_option maxRecDepth 100000 in
set_option maxHeartbeats 4000000 in
theorem ev_wins0 (d : Nat) (N V S C : List Nat) (P : List Value) (sv tl : Nat) (has : Bool) (g : xH) (t : Nat) (ok : stN N) (gk : gOk P g) (ht : t < 2) :
    Ev xT (d + 6) N_B_wins [.ref 0, .int (nI t)] (hB N V S C P sv tl has g) (clQ N V S C sv tl has g 0 (some (.int (nI (if wonB (plN N) t (N.getD 0 0) then 1 else 0))))) NX := by
  have key : ∀ t, t < 2 → turnE (nI t) = 0 := by decide +kernel
  have h := ev_wins d N V S C P sv tl has g (nI t) ok gk
  rw [n_cl (by omega), key t ht] at h
  exact Ev_mono h (fun v g q => q) (fun _ g q => absurd rfl q.1)
set_option maxRecDepth 100000 in
set_option maxHeartbeats 4000000 in
theorem ev_length0 (d : Nat) (N V S C : List Nat) (P : List Value) (sv tl : Nat) (has : Bool) (g : xH) (t : Nat) (ok : stN N) (gk : gOk P g) (ht : t < 2) :
    Ev xT (d + 6) N_B_length [.ref 0, .int (nI t)] (hB N V S C P sv tl has g) (clQ N V S C sv tl has g 0 (some (.int (nI (if t = 0 then lonN (plN N) (N.getD 1 0) (N.getD 0 0) else shoN (plN N) (N.getD 1 0) (N.getD 0 0)))))) NX := by
  have key : ∀ t, t < 2 → turnE (nI t) = 0 := by decide +kernel
  have h := ev_length d N V S C P sv tl has g (nI t) ok gk
  rw [key t ht] at h
  have e : (nI t = 0) = (t = 0) := propext (n_e0 (by omega))
  simp only [e] at h
  exact Ev_mono h (fun v g q => q) (fun _ g q => absurd rfl q.1)
set_option maxRecDepth 100000 in
set_option maxHeartbeats 4000000 in
theorem ev_pyramids0 (d : Nat) (N V S C : List Nat) (P : List Value) (sv tl : Nat) (has : Bool) (g : xH) (w : Nat) (ok : stN N) (gk : gOk P g) (hw : w < 4) :
    Ev xT (d + 6) N_B_pyramids [.ref 0, .int (nI w)] (hB N V S C P sv tl has g) (clQ N V S C sv tl has g 0 (some (.int (nI (pyrR N (nI w)))))) NX := by
  have key : ∀ t, t < 4 → pyrE (nI t) = 0 := by decide +kernel
  have h := ev_pyramids d N V S C P sv tl has g (nI w) ok gk
  rw [key w hw] at h
  exact Ev_mono h (fun v g q => q) (fun _ g q => absurd rfl q.1)
def dcL (N : List Nat) (sv : Nat) : Nat → Nat → Int64 → Int64
  | 0, _, h => h
  | j + 1, k, h => dcL N sv j (k + 1) (lN 31 * h + (cntR N sv (nI k)).toInt64)
def dsL (N : List Nat) : Nat → Nat → Int64 → Int64
  | 0, _, h => h
  | j + 1, k, h => dsL N j (k + 1) (lN 31 * h + (nI (N.getD (3 + k) 0)).toInt64)
def drL (N : List Nat) : Nat → Nat → Int64 → Int64
  | 0, _, h => h
  | j + 1, r, h => drL N j (r + 1) (hwL N r 3 0 (hrL N r 6 0 h))
def dpL (N : List Nat) : Nat → Nat → Int64 → Int64
  | 0, _, h => h
  | j + 1, w, h => dpL N j (w + 1) (lN 31 * h + (nI (pyrR N (nI w))).toInt64)
def dgA (N : List Nat) (sv : Nat) : Int64 := drL N 5 0 (dsL N 3 0 (dcL N sv 10 0 (lN 3323)))
def dgB (N : List Nat) (h : Int64) : Int64 := lN 31 * (lN 31 * (lN 31 * (lN 31 * (lN 31 * h + (nI (if wonB (plN N) 0 (N.getD 0 0) then 1 else 0)).toInt64) + (nI (if wonB (plN N) 1 (N.getD 0 0) then 1 else 0)).toInt64) + (oI (beR N 5 0)).toInt64) + (nI (lonN (plN N) (N.getD 1 0) (N.getD 0 0))).toInt64) + (nI (shoN (plN N) (N.getD 1 0) (N.getD 0 0))).toInt64
def dgC (N C : List Nat) (tl : Nat) (has : Bool) (h : Int64) : Int64 := hbL C tl 0 (lN 31 * (lN 31 * (lN 31 * (lN 31 * h + (bsF (brkS N 5 0 0) (brkS N 5 0 0 + N.getD 16 0 + N.getD 17 0)).toInt64) + (wsF (cW (plN N) (N.getD 1 0) 132 0 0)).toInt32.toInt64) + (if has = true then lN 1 else lN 0)) + (nI tl).toInt64)
def dgN (N C : List Nat) (sv tl : Nat) (has : Bool) : Int64 := dgC N C tl has (dpL N 4 0 (dgB N (dgA N sv)))
theorem ext_tr {ga g g' : xH} (h1 : ∃ k, g = ga ++ k) (h2 : ∃ k, g' = g ++ k) : ∃ k, g' = ga ++ k := by
  obtain ⟨k, rfl⟩ := h1
  obtain ⟨k', rfl⟩ := h2
  exact ⟨k ++ k', List.append_assoc _ _ _⟩
set_option maxRecDepth 100000 in
set_option maxHeartbeats 4000000 in
theorem ev_digest (d : Nat) (N V S C : List Nat) (P : List Value) (sv tl : Nat) (has : Bool) (g : xH) (ok : stN N) (gk : gOk P g) (hC : C.length = 60) (ht : tl ≤ 60) (hg : brkS N 5 0 0 + N.getD 16 0 + N.getD 17 0 < 2 ^ 31) :
    Ev xT (d + 7) N_B_digest [.ref 0] (hB N V S C P sv tl has g) (clQ N V S C sv tl has g 0 (some (.long (dgN N C sv tl has)))) NX := by
  refine Ev_intro t_B_digest (Nat.le_of_ble_eq_true rfl) ?_
  intro Q X hQ hX K hK
  show K 0 [some (.ref 0), none, none, none] [] _ 0 0
  have hN := ok.1
  have h1 := ok.2.2.1
  have hq : ∀ h', (∃ P' g', h' = hB N V S C P' sv tl has g' ∧ gOk P' g' ∧ ∃ k, g' = g ++ k) → Q (some (.long (dgN N C sv tl has))) h' := fun h' q => hQ (some (.long (dgN N C sv tl has))) h' ⟨rfl, rfl, q⟩
  obtain ⟨ga, hga⟩ : ∃ ga, ga = g := ⟨g, rfl⟩
  rw [← hga] at hq
  have ex0 : ∃ k, g = ga ++ k := ⟨[], by rw [hga, List.append_nil]⟩
  unfold dgN at hq
  have lC : ∀ (j k : Nat) (y : Int64), k + j = 10 → (∀ c s L3, c = 10 → s = 60 → K 2 [some (.ref 0), some (.long (dcL N sv j k y)), none, L3] [] (hB N V S C P sv tl has g) c s) → K 1 [some (.ref 0), some (.long y), none, some (.int (nI k))] [] (hB N V S C P sv tl has g) k (6 * k) := by
    intro j
    induction j with
    | zero =>
      intro k y hk hn
      obtain rfl : k = 10 := by omega
      refine hK 1 _ _ _ _ _ _ _ _ rfl ?_
      dsimp only [k_B_digest_1, hN1, hB, hM1, hM, wpI, xop, xcall, xli, xlj, xlf, xld, xla, xlg, xst, xst2, xc1, pI, pJ, pF, pD, pR, pA, p1, p0, xpop, xpush, xsm, xhas, xif, xic, xsw, xai, xal, xhi, xhv, xrf, xret, xrtl, xrtf, xrtd, xrta, xrtv, xfit, xnew, cond_true, cond_false, f40, f41, f42, f43, List.length_cons, List.length_nil, Nat.reduceAdd, Nat.reduceSub, Nat.reduceMul, Nat.reduceBEq, List.map_cons, List.map_nil, List.headD_cons, List.getElem?_cons_zero, List.getElem?_cons_succ, List.set_cons_zero, List.set_cons_succ]
      refine br_t (by decide) ?_
      exact hn _ _ _ rfl rfl
    | succ j ih =>
      intro k y hk hn
      rw [dcL] at hn
      refine hK 1 _ _ _ _ _ _ _ _ rfl ?_
      dsimp only [k_B_digest_1, hN1, hB, hM1, hM, wpI, xop, xcall, xli, xlj, xlf, xld, xla, xlg, xst, xst2, xc1, pI, pJ, pF, pD, pR, pA, p1, p0, xpop, xpush, xsm, xhas, xif, xic, xsw, xai, xal, xhi, xhv, xrf, xret, xrtl, xrtf, xrtd, xrta, xrtv, xfit, xnew, cond_true, cond_false, f40, f41, f42, f43, List.length_cons, List.length_nil, Nat.reduceAdd, Nat.reduceSub, Nat.reduceMul, Nat.reduceBEq, List.map_cons, List.map_nil, List.headD_cons, List.getElem?_cons_zero, List.getElem?_cons_succ, List.set_cons_zero, List.set_cons_succ]
      try simp (disch := first | omega | (simp only [List.length_set]; omega)) only [nI_add, n_and, n_or, n_xor, n_i31, nI_leI, nI_ltI, n_e0, n_eq, n_m1e, n_l0, n_g0, n_p0, n_q0, n_cl, n_in, n_sub, n_shr, n_shl, n_div, bI_0, n_01, n_11, bI_or, not_false_eq_true, forall_const, not_true_eq_false, false_imp_iff, true_imp_iff, List.length_map, List.length_set, hN, nL_u, gs_eq, gs_ne, nI_set, Nat.reduceLT, true_and, and_true, pk_mul]
      refine br_f (by omega) ⟨by omega, by omega, ?_⟩
      refine Ev_use (ev_count0 _ N V S C P sv tl has g k ok (by omega)) ?_
      dsimp only [hN1, hB, hM1, hM, wpI, xop, xcall, xli, xlj, xlf, xld, xla, xlg, xst, xst2, xc1, pI, pJ, pF, pD, pR, pA, p1, p0, xpop, xpush, xsm, xhas, xif, xic, xsw, xai, xal, xhi, xhv, xrf, xret, xrtl, xrtf, xrtd, xrta, xrtv, xfit, xnew, cond_true, cond_false, f40, f41, f42, f43, List.length_cons, List.length_nil, Nat.reduceAdd, Nat.reduceSub, Nat.reduceMul, Nat.reduceBEq, List.map_cons, List.map_nil, List.headD_cons, List.getElem?_cons_zero, List.getElem?_cons_succ, List.set_cons_zero, List.set_cons_succ]
      try simp (disch := first | omega | (simp only [List.length_set]; omega)) only [nI_add, n_and, n_or, n_xor, n_i31, nI_leI, nI_ltI, n_e0, n_eq, n_m1e, n_l0, n_g0, n_p0, n_q0, n_cl, n_in, n_sub, n_shr, n_shl, n_div, bI_0, n_01, n_11, bI_or, not_false_eq_true, forall_const, not_true_eq_false, false_imp_iff, true_imp_iff, List.length_map, List.length_set, hN, nL_u, gs_eq, gs_ne, nI_set, Nat.reduceLT, true_and, and_true, pk_mul]
      have h := ih (k + 1) _ (by omega) hn
      rw [show 6 * (k + 1) = 6 * k + 6 by omega] at h
      exact h
  have lS : ∀ (j k : Nat) (y : Int64), k + j = 3 → (∀ L3, K 4 [some (.ref 0), some (.long (dsL N j k y)), none, L3] [] (hB N V S C P sv tl has g) 10 60) → K 3 [some (.ref 0), some (.long y), none, some (.int (nI k))] [] (hB N V S C P sv tl has g) 10 60 := by
    intro j
    induction j with
    | zero =>
      intro k y hk hn
      obtain rfl : k = 3 := by omega
      refine hK 3 _ _ _ _ _ _ _ _ rfl ?_
      dsimp only [k_B_digest_3, hN1, hB, hM1, hM, wpI, xop, xcall, xli, xlj, xlf, xld, xla, xlg, xst, xst2, xc1, pI, pJ, pF, pD, pR, pA, p1, p0, xpop, xpush, xsm, xhas, xif, xic, xsw, xai, xal, xhi, xhv, xrf, xret, xrtl, xrtf, xrtd, xrta, xrtv, xfit, xnew, cond_true, cond_false, f40, f41, f42, f43, List.length_cons, List.length_nil, Nat.reduceAdd, Nat.reduceSub, Nat.reduceMul, Nat.reduceBEq, List.map_cons, List.map_nil, List.headD_cons, List.getElem?_cons_zero, List.getElem?_cons_succ, List.set_cons_zero, List.set_cons_succ]
      refine br_t (by decide) ?_
      exact hn _
    | succ j ih =>
      intro k y hk hn
      rw [dsL] at hn
      refine hK 3 _ _ _ _ _ _ _ _ rfl ?_
      dsimp only [k_B_digest_3, hN1, hB, hM1, hM, wpI, xop, xcall, xli, xlj, xlf, xld, xla, xlg, xst, xst2, xc1, pI, pJ, pF, pD, pR, pA, p1, p0, xpop, xpush, xsm, xhas, xif, xic, xsw, xai, xal, xhi, xhv, xrf, xret, xrtl, xrtf, xrtd, xrta, xrtv, xfit, xnew, cond_true, cond_false, f40, f41, f42, f43, List.length_cons, List.length_nil, Nat.reduceAdd, Nat.reduceSub, Nat.reduceMul, Nat.reduceBEq, List.map_cons, List.map_nil, List.headD_cons, List.getElem?_cons_zero, List.getElem?_cons_succ, List.set_cons_zero, List.set_cons_succ]
      try simp (disch := first | omega | (simp only [List.length_set]; omega)) only [nI_add, n_and, n_or, n_xor, n_i31, nI_leI, nI_ltI, n_e0, n_eq, n_m1e, n_l0, n_g0, n_p0, n_q0, n_cl, n_in, n_sub, n_shr, n_shl, n_div, bI_0, n_01, n_11, bI_or, not_false_eq_true, forall_const, not_true_eq_false, false_imp_iff, true_imp_iff, List.length_map, List.length_set, hN, nL_u, gs_eq, gs_ne, nI_set, Nat.reduceLT, true_and, and_true, pk_mul]
      refine br_f (by omega) ⟨by omega, ?_⟩
      exact ih (k + 1) _ (by omega) hn
  have lR : ∀ (j r : Nat) (y : Int64), r + j = 5 → (K 6 [some (.ref 0), some (.long (drL N j r y)), none, some (.int (nI 5))] [] (hB N V S C P sv tl has g) 70 420) → K 5 [some (.ref 0), some (.long y), none, some (.int (nI r))] [] (hB N V S C P sv tl has g) (10 + 12 * r) (60 + 72 * r) := by
    intro j
    induction j with
    | zero =>
      intro r y hr hn
      obtain rfl : r = 5 := by omega
      refine hK 5 _ _ _ _ _ _ _ _ rfl ?_
      dsimp only [k_B_digest_5, hN1, hB, hM1, hM, wpI, xop, xcall, xli, xlj, xlf, xld, xla, xlg, xst, xst2, xc1, pI, pJ, pF, pD, pR, pA, p1, p0, xpop, xpush, xsm, xhas, xif, xic, xsw, xai, xal, xhi, xhv, xrf, xret, xrtl, xrtf, xrtd, xrta, xrtv, xfit, xnew, cond_true, cond_false, f40, f41, f42, f43, List.length_cons, List.length_nil, Nat.reduceAdd, Nat.reduceSub, Nat.reduceMul, Nat.reduceBEq, List.map_cons, List.map_nil, List.headD_cons, List.getElem?_cons_zero, List.getElem?_cons_succ, List.set_cons_zero, List.set_cons_succ]
      refine br_t (by decide) ?_
      exact hn
    | succ j ih =>
      intro r y hr hn
      rw [drL] at hn
      refine hK 5 _ _ _ _ _ _ _ _ rfl ?_
      dsimp only [k_B_digest_5, hN1, hB, hM1, hM, wpI, xop, xcall, xli, xlj, xlf, xld, xla, xlg, xst, xst2, xc1, pI, pJ, pF, pD, pR, pA, p1, p0, xpop, xpush, xsm, xhas, xif, xic, xsw, xai, xal, xhi, xhv, xrf, xret, xrtl, xrtf, xrtd, xrta, xrtv, xfit, xnew, cond_true, cond_false, f40, f41, f42, f43, List.length_cons, List.length_nil, Nat.reduceAdd, Nat.reduceSub, Nat.reduceMul, Nat.reduceBEq, List.map_cons, List.map_nil, List.headD_cons, List.getElem?_cons_zero, List.getElem?_cons_succ, List.set_cons_zero, List.set_cons_succ]
      try simp (disch := first | omega | (simp only [List.length_set]; omega)) only [nI_add, n_and, n_or, n_xor, n_i31, nI_leI, nI_ltI, n_e0, n_eq, n_m1e, n_l0, n_g0, n_p0, n_q0, n_cl, n_in, n_sub, n_shr, n_shl, n_div, bI_0, n_01, n_11, bI_or, not_false_eq_true, forall_const, not_true_eq_false, false_imp_iff, true_imp_iff, List.length_map, List.length_set, hN, nL_u, gs_eq, gs_ne, nI_set, Nat.reduceLT, true_and, and_true, pk_mul]
      refine br_f (by omega) ⟨by omega, by omega, ?_⟩
      refine Ev_use (ev_hashRow _ N _ _ y r ok (by omega)) ?_
      dsimp only [hN1, hB, hM1, hM, wpI, xop, xcall, xli, xlj, xlf, xld, xla, xlg, xst, xst2, xc1, pI, pJ, pF, pD, pR, pA, p1, p0, xpop, xpush, xsm, xhas, xif, xic, xsw, xai, xal, xhi, xhv, xrf, xret, xrtl, xrtf, xrtd, xrta, xrtv, xfit, xnew, cond_true, cond_false, f40, f41, f42, f43, List.length_cons, List.length_nil, Nat.reduceAdd, Nat.reduceSub, Nat.reduceMul, Nat.reduceBEq, List.map_cons, List.map_nil, List.headD_cons, List.getElem?_cons_zero, List.getElem?_cons_succ, List.set_cons_zero, List.set_cons_succ]
      try simp (disch := first | omega | (simp only [List.length_set]; omega)) only [nI_add, n_and, n_or, n_xor, n_i31, nI_leI, nI_ltI, n_e0, n_eq, n_m1e, n_l0, n_g0, n_p0, n_q0, n_cl, n_in, n_sub, n_shr, n_shl, n_div, bI_0, n_01, n_11, bI_or, not_false_eq_true, forall_const, not_true_eq_false, false_imp_iff, true_imp_iff, List.length_map, List.length_set, hN, nL_u, gs_eq, gs_ne, nI_set, Nat.reduceLT, true_and, and_true, pk_mul]
      have h := ih (r + 1) _ (by omega) hn
      rw [show 10 + 12 * (r + 1) = 10 + 12 * r + 12 by omega, show 60 + 72 * (r + 1) = 60 + 72 * r + 72 by omega] at h
      exact h
  have lP : ∀ (j w : Nat) (y : Int64) (P : List Value) (g : xH), w + j = 4 → gOk P g → (∃ k, g = ga ++ k) → (∀ P g, gOk P g → (∃ k, g = ga ++ k) → K 8 [some (.ref 0), some (.long (dpL N j w y)), none, some (.int (nI 4))] [] (hB N V S C P sv tl has g) 106 7611) → K 7 [some (.ref 0), some (.long y), none, some (.int (nI w))] [] (hB N V S C P sv tl has g) (90 + 4 * w) (4415 + 799 * w) := by
    intro j
    induction j with
    | zero =>
      intro w y P g hw gk ex hn
      obtain rfl : w = 4 := by omega
      refine hK 7 _ _ _ _ _ _ _ _ rfl ?_
      dsimp only [k_B_digest_7, hN1, hB, hM1, hM, wpI, xop, xcall, xli, xlj, xlf, xld, xla, xlg, xst, xst2, xc1, pI, pJ, pF, pD, pR, pA, p1, p0, xpop, xpush, xsm, xhas, xif, xic, xsw, xai, xal, xhi, xhv, xrf, xret, xrtl, xrtf, xrtd, xrta, xrtv, xfit, xnew, cond_true, cond_false, f40, f41, f42, f43, List.length_cons, List.length_nil, Nat.reduceAdd, Nat.reduceSub, Nat.reduceMul, Nat.reduceBEq, List.map_cons, List.map_nil, List.headD_cons, List.getElem?_cons_zero, List.getElem?_cons_succ, List.set_cons_zero, List.set_cons_succ]
      refine br_t (by decide) ?_
      exact hn _ _ gk ex
    | succ j ih =>
      intro w y P g hw gk ex hn
      rw [dpL] at hn
      refine hK 7 _ _ _ _ _ _ _ _ rfl ?_
      dsimp only [k_B_digest_7, hN1, hB, hM1, hM, wpI, xop, xcall, xli, xlj, xlf, xld, xla, xlg, xst, xst2, xc1, pI, pJ, pF, pD, pR, pA, p1, p0, xpop, xpush, xsm, xhas, xif, xic, xsw, xai, xal, xhi, xhv, xrf, xret, xrtl, xrtf, xrtd, xrta, xrtv, xfit, xnew, cond_true, cond_false, f40, f41, f42, f43, List.length_cons, List.length_nil, Nat.reduceAdd, Nat.reduceSub, Nat.reduceMul, Nat.reduceBEq, List.map_cons, List.map_nil, List.headD_cons, List.getElem?_cons_zero, List.getElem?_cons_succ, List.set_cons_zero, List.set_cons_succ]
      try simp (disch := first | omega | (simp only [List.length_set]; omega)) only [nI_add, n_and, n_or, n_xor, n_i31, nI_leI, nI_ltI, n_e0, n_eq, n_m1e, n_l0, n_g0, n_p0, n_q0, n_cl, n_in, n_sub, n_shr, n_shl, n_div, bI_0, n_01, n_11, bI_or, not_false_eq_true, forall_const, not_true_eq_false, false_imp_iff, true_imp_iff, List.length_map, List.length_set, hN, nL_u, gs_eq, gs_ne, nI_set, Nat.reduceLT, true_and, and_true, pk_mul]
      refine br_f (by omega) ⟨by omega, by omega, by simp [xwL, xwS, wfv], by simp [xwL, xwS, wfv], ?_⟩
      refine Ev_of (ev_pyramids0 _ N V S C P sv tl has g w ok gk (by omega)) ?_
      rintro v h' ⟨_, rfl, P', g', rfl, gk', ex'⟩
      dsimp only [hN1, hB, hM1, hM, wpI, xop, xcall, xli, xlj, xlf, xld, xla, xlg, xst, xst2, xc1, pI, pJ, pF, pD, pR, pA, p1, p0, xpop, xpush, xsm, xhas, xif, xic, xsw, xai, xal, xhi, xhv, xrf, xret, xrtl, xrtf, xrtd, xrta, xrtv, xfit, xnew, cond_true, cond_false, f40, f41, f42, f43, List.length_cons, List.length_nil, Nat.reduceAdd, Nat.reduceSub, Nat.reduceMul, Nat.reduceBEq, List.map_cons, List.map_nil, List.headD_cons, List.getElem?_cons_zero, List.getElem?_cons_succ, List.set_cons_zero, List.set_cons_succ]
      try simp (disch := first | omega | (simp only [List.length_set]; omega)) only [nI_add, n_and, n_or, n_xor, n_i31, nI_leI, nI_ltI, n_e0, n_eq, n_m1e, n_l0, n_g0, n_p0, n_q0, n_cl, n_in, n_sub, n_shr, n_shl, n_div, bI_0, n_01, n_11, bI_or, not_false_eq_true, forall_const, not_true_eq_false, false_imp_iff, true_imp_iff, List.length_map, List.length_set, hN, nL_u, gs_eq, gs_ne, nI_set, Nat.reduceLT, true_and, and_true, pk_mul]
      have h := ih (w + 1) _ P' g' (by omega) gk' (ext_tr ex ex') hn
      rw [show 90 + 4 * (w + 1) = 90 + 4 * w + 4 by omega, show 4415 + 799 * (w + 1) = 4415 + 799 * w + 799 by omega] at h
      exact h
  have f10 : ∀ (y : Int64) (P : List Value) (g : xH), gOk P g → (∃ k, g = ga ++ k) → dgC N C tl has y = dgN N C sv tl has → K 8 [some (.ref 0), some (.long y), none, some (.int (nI 4))] [] (hB N V S C P sv tl has g) 106 7611 := by
    intro y P g gk ex e
    unfold dgC at e
    have hcw := cW_le (plN N) (N.getD 1 0) 132 0 0
    have go10 : ∀ (P : List Value) (g : xH) (x b : Int64) (L1 : Option Value), gOk P g → (∃ k, g = ga ++ k) → b = (if has = true then lN 1 else lN 0) → dgN N C sv tl has = hbL C tl 0 (lN 31 * (lN 31 * x + b) + (nI tl).toInt64) → K 10 [some (.ref 0), L1, none, some (.int (nI 4))] [.long b, .long (lN 31 * x)] (hB N V S C P sv tl has g) 110 8410 := by
      intro P g x b L1 gk ex1 eb ex2
      refine hK 10 _ _ _ _ _ _ _ _ rfl ?_
      dsimp only [k_B_digest_10, hN1, hB, hM1, hM, wpI, xop, xcall, xli, xlj, xlf, xld, xla, xlg, xst, xst2, xc1, pI, pJ, pF, pD, pR, pA, p1, p0, xpop, xpush, xsm, xhas, xif, xic, xsw, xai, xal, xhi, xhv, xrf, xret, xrtl, xrtf, xrtd, xrta, xrtv, xfit, xnew, cond_true, cond_false, f40, f41, f42, f43, List.length_cons, List.length_nil, Nat.reduceAdd, Nat.reduceSub, Nat.reduceMul, Nat.reduceBEq, List.map_cons, List.map_nil, List.headD_cons, List.getElem?_cons_zero, List.getElem?_cons_succ, List.set_cons_zero, List.set_cons_succ]
      refine Ev_use (ev_hashBuffer _ N V S C P sv tl has g (lN 31 * x + b) hC ht) ?_
      dsimp only [hN1, hB, hM1, hM, wpI, xop, xcall, xli, xlj, xlf, xld, xla, xlg, xst, xst2, xc1, pI, pJ, pF, pD, pR, pA, p1, p0, xpop, xpush, xsm, xhas, xif, xic, xsw, xai, xal, xhi, xhv, xrf, xret, xrtl, xrtf, xrtd, xrta, xrtv, xfit, xnew, cond_true, cond_false, f40, f41, f42, f43, List.length_cons, List.length_nil, Nat.reduceAdd, Nat.reduceSub, Nat.reduceMul, Nat.reduceBEq, List.map_cons, List.map_nil, List.headD_cons, List.getElem?_cons_zero, List.getElem?_cons_succ, List.set_cons_zero, List.set_cons_succ]
      rw [← ex2]
      exact ⟨by decide, by decide, hq _ ⟨P, g, rfl, gk, ex1⟩⟩
    refine hK 8 _ _ _ _ _ _ _ _ rfl ?_
    dsimp only [k_B_digest_8, hN1, hB, hM1, hM, wpI, xop, xcall, xli, xlj, xlf, xld, xla, xlg, xst, xst2, xc1, pI, pJ, pF, pD, pR, pA, p1, p0, xpop, xpush, xsm, xhas, xif, xic, xsw, xai, xal, xhi, xhv, xrf, xret, xrtl, xrtf, xrtd, xrta, xrtv, xfit, xnew, cond_true, cond_false, f40, f41, f42, f43, List.length_cons, List.length_nil, Nat.reduceAdd, Nat.reduceSub, Nat.reduceMul, Nat.reduceBEq, List.map_cons, List.map_nil, List.headD_cons, List.getElem?_cons_zero, List.getElem?_cons_succ, List.set_cons_zero, List.set_cons_succ]
    refine Ev_use (ev_brokenShare _ N _ _ hN) ?_
    dsimp only [hN1, hB, hM1, hM, wpI, xop, xcall, xli, xlj, xlf, xld, xla, xlg, xst, xst2, xc1, pI, pJ, pF, pD, pR, pA, p1, p0, xpop, xpush, xsm, xhas, xif, xic, xsw, xai, xal, xhi, xhv, xrf, xret, xrtl, xrtf, xrtd, xrta, xrtv, xfit, xnew, cond_true, cond_false, f40, f41, f42, f43, List.length_cons, List.length_nil, Nat.reduceAdd, Nat.reduceSub, Nat.reduceMul, Nat.reduceBEq, List.map_cons, List.map_nil, List.headD_cons, List.getElem?_cons_zero, List.getElem?_cons_succ, List.set_cons_zero, List.set_cons_succ]
    refine Ev_use (ev_bosD _ (brkS N 5 0 0) (brkS N 5 0 0 + N.getD 16 0 + N.getD 17 0) _ (by omega) hg) ?_
    dsimp only [hN1, hB, hM1, hM, wpI, xop, xcall, xli, xlj, xlf, xld, xla, xlg, xst, xst2, xc1, pI, pJ, pF, pD, pR, pA, p1, p0, xpop, xpush, xsm, xhas, xif, xic, xsw, xai, xal, xhi, xhv, xrf, xret, xrtl, xrtf, xrtd, xrta, xrtv, xfit, xnew, cond_true, cond_false, f40, f41, f42, f43, List.length_cons, List.length_nil, Nat.reduceAdd, Nat.reduceSub, Nat.reduceMul, Nat.reduceBEq, List.map_cons, List.map_nil, List.headD_cons, List.getElem?_cons_zero, List.getElem?_cons_succ, List.set_cons_zero, List.set_cons_succ]
    refine ⟨by trivial, by decide, by decide, by simp [xwL, xwS, wfv], by simp [xwL, xwS, wfv], ?_⟩
    refine Ev_of (ev_wonShare _ N V S C P sv tl has g ok gk) ?_
    rintro v h' ⟨_, rfl, P, g, rfl, gk, ex'⟩
    have ex := ext_tr ex ex'
    dsimp only [hN1, hB, hM1, hM, wpI, xop, xcall, xli, xlj, xlf, xld, xla, xlg, xst, xst2, xc1, pI, pJ, pF, pD, pR, pA, p1, p0, xpop, xpush, xsm, xhas, xif, xic, xsw, xai, xal, xhi, xhv, xrf, xret, xrtl, xrtf, xrtd, xrta, xrtv, xfit, xnew, cond_true, cond_false, f40, f41, f42, f43, List.length_cons, List.length_nil, Nat.reduceAdd, Nat.reduceSub, Nat.reduceMul, Nat.reduceBEq, List.map_cons, List.map_nil, List.headD_cons, List.getElem?_cons_zero, List.getElem?_cons_succ, List.set_cons_zero, List.set_cons_succ]
    refine ⟨f2d_n (by omega), ?_⟩
    refine Ev_use (ev_bosF _ (cW (plN N) (N.getD 1 0) 132 0 0) _ (by omega)) ?_
    dsimp only [hN1, hB, hM1, hM, wpI, xop, xcall, xli, xlj, xlf, xld, xla, xlg, xst, xst2, xc1, pI, pJ, pF, pD, pR, pA, p1, p0, xpop, xpush, xsm, xhas, xif, xic, xsw, xai, xal, xhi, xhv, xrf, xret, xrtl, xrtf, xrtd, xrta, xrtv, xfit, xnew, cond_true, cond_false, f40, f41, f42, f43, List.length_cons, List.length_nil, Nat.reduceAdd, Nat.reduceSub, Nat.reduceMul, Nat.reduceBEq, List.map_cons, List.map_nil, List.headD_cons, List.getElem?_cons_zero, List.getElem?_cons_succ, List.set_cons_zero, List.set_cons_succ]
    rw [bI_0]
    refine ⟨fun z => ?_, fun z => ?_⟩
    · rw [if_neg (by rw [z]; decide)] at e
      refine hK 9 _ _ _ _ _ _ _ _ rfl ?_
      dsimp only [k_B_digest_9, hN1, hB, hM1, hM, wpI, xop, xcall, xli, xlj, xlf, xld, xla, xlg, xst, xst2, xc1, pI, pJ, pF, pD, pR, pA, p1, p0, xpop, xpush, xsm, xhas, xif, xic, xsw, xai, xal, xhi, xhv, xrf, xret, xrtl, xrtf, xrtd, xrta, xrtv, xfit, xnew, cond_true, cond_false, f40, f41, f42, f43, List.length_cons, List.length_nil, Nat.reduceAdd, Nat.reduceSub, Nat.reduceMul, Nat.reduceBEq, List.map_cons, List.map_nil, List.headD_cons, List.getElem?_cons_zero, List.getElem?_cons_succ, List.set_cons_zero, List.set_cons_succ]
      exact go10 P g _ _ _ gk ex (by rw [if_neg (by rw [z]; decide)]) e.symm
    · rw [if_pos (b_nf z)] at e
      exact go10 P g _ _ _ gk ex (by rw [if_pos (b_nf z)]) e.symm
  have f6 : K 6 [some (.ref 0), some (.long (dgA N sv)), none, some (.int (nI 5))] [] (hB N V S C P sv tl has g) 70 420 := by
    refine hK 6 _ _ _ _ _ _ _ _ rfl ?_
    dsimp only [k_B_digest_6, hN1, hB, hM1, hM, wpI, xop, xcall, xli, xlj, xlf, xld, xla, xlg, xst, xst2, xc1, pI, pJ, pF, pD, pR, pA, p1, p0, xpop, xpush, xsm, xhas, xif, xic, xsw, xai, xal, xhi, xhv, xrf, xret, xrtl, xrtf, xrtd, xrta, xrtv, xfit, xnew, cond_true, cond_false, f40, f41, f42, f43, List.length_cons, List.length_nil, Nat.reduceAdd, Nat.reduceSub, Nat.reduceMul, Nat.reduceBEq, List.map_cons, List.map_nil, List.headD_cons, List.getElem?_cons_zero, List.getElem?_cons_succ, List.set_cons_zero, List.set_cons_succ]
    refine ⟨by trivial, by decide, by decide, by simp [xwL, xwS, wfv], by simp [xwL, xwS, wfv], ?_⟩
    refine Ev_of (ev_wins0 _ N V S C P sv tl has g 0 ok gk (by decide)) ?_
    rintro v h' ⟨_, rfl, P, g, rfl, gk, ex'⟩
    replace ex0 := ext_tr ex0 ex'
    dsimp only [hN1, hB, hM1, hM, wpI, xop, xcall, xli, xlj, xlf, xld, xla, xlg, xst, xst2, xc1, pI, pJ, pF, pD, pR, pA, p1, p0, xpop, xpush, xsm, xhas, xif, xic, xsw, xai, xal, xhi, xhv, xrf, xret, xrtl, xrtf, xrtd, xrta, xrtv, xfit, xnew, cond_true, cond_false, f40, f41, f42, f43, List.length_cons, List.length_nil, Nat.reduceAdd, Nat.reduceSub, Nat.reduceMul, Nat.reduceBEq, List.map_cons, List.map_nil, List.headD_cons, List.getElem?_cons_zero, List.getElem?_cons_succ, List.set_cons_zero, List.set_cons_succ]
    refine ⟨by trivial, by decide, by decide, by simp [xwL, xwS, wfv], by simp [xwL, xwS, wfv], ?_⟩
    refine Ev_of (ev_wins0 _ N V S C P sv tl has g 1 ok gk (by decide)) ?_
    rintro v h' ⟨_, rfl, P, g, rfl, gk, ex'⟩
    replace ex0 := ext_tr ex0 ex'
    dsimp only [hN1, hB, hM1, hM, wpI, xop, xcall, xli, xlj, xlf, xld, xla, xlg, xst, xst2, xc1, pI, pJ, pF, pD, pR, pA, p1, p0, xpop, xpush, xsm, xhas, xif, xic, xsw, xai, xal, xhi, xhv, xrf, xret, xrtl, xrtf, xrtd, xrta, xrtv, xfit, xnew, cond_true, cond_false, f40, f41, f42, f43, List.length_cons, List.length_nil, Nat.reduceAdd, Nat.reduceSub, Nat.reduceMul, Nat.reduceBEq, List.map_cons, List.map_nil, List.headD_cons, List.getElem?_cons_zero, List.getElem?_cons_succ, List.set_cons_zero, List.set_cons_succ]
    refine ⟨by trivial, by decide, by decide, by simp [xwL, xwS, wfv], by simp [xwL, xwS, wfv], ?_⟩
    refine Ev_of (ev_best _ N V S C P sv tl has g ok gk) ?_
    rintro v h' ⟨_, rfl, P, g, rfl, gk, ex'⟩
    replace ex0 := ext_tr ex0 ex'
    dsimp only [hN1, hB, hM1, hM, wpI, xop, xcall, xli, xlj, xlf, xld, xla, xlg, xst, xst2, xc1, pI, pJ, pF, pD, pR, pA, p1, p0, xpop, xpush, xsm, xhas, xif, xic, xsw, xai, xal, xhi, xhv, xrf, xret, xrtl, xrtf, xrtd, xrta, xrtv, xfit, xnew, cond_true, cond_false, f40, f41, f42, f43, List.length_cons, List.length_nil, Nat.reduceAdd, Nat.reduceSub, Nat.reduceMul, Nat.reduceBEq, List.map_cons, List.map_nil, List.headD_cons, List.getElem?_cons_zero, List.getElem?_cons_succ, List.set_cons_zero, List.set_cons_succ]
    refine ⟨by trivial, by decide, by decide, by simp [xwL, xwS, wfv], by simp [xwL, xwS, wfv], ?_⟩
    refine Ev_of (ev_length0 _ N V S C P sv tl has g 0 ok gk (by decide)) ?_
    rintro v h' ⟨_, rfl, P, g, rfl, gk, ex'⟩
    replace ex0 := ext_tr ex0 ex'
    dsimp only [hN1, hB, hM1, hM, wpI, xop, xcall, xli, xlj, xlf, xld, xla, xlg, xst, xst2, xc1, pI, pJ, pF, pD, pR, pA, p1, p0, xpop, xpush, xsm, xhas, xif, xic, xsw, xai, xal, xhi, xhv, xrf, xret, xrtl, xrtf, xrtd, xrta, xrtv, xfit, xnew, cond_true, cond_false, f40, f41, f42, f43, List.length_cons, List.length_nil, Nat.reduceAdd, Nat.reduceSub, Nat.reduceMul, Nat.reduceBEq, List.map_cons, List.map_nil, List.headD_cons, List.getElem?_cons_zero, List.getElem?_cons_succ, List.set_cons_zero, List.set_cons_succ]
    refine ⟨by trivial, by decide, by decide, by simp [xwL, xwS, wfv], by simp [xwL, xwS, wfv], ?_⟩
    refine Ev_of (ev_length0 _ N V S C P sv tl has g 1 ok gk (by decide)) ?_
    rintro v h' ⟨_, rfl, P, g, rfl, gk, ex'⟩
    replace ex0 := ext_tr ex0 ex'
    dsimp only [hN1, hB, hM1, hM, wpI, xop, xcall, xli, xlj, xlf, xld, xla, xlg, xst, xst2, xc1, pI, pJ, pF, pD, pR, pA, p1, p0, xpop, xpush, xsm, xhas, xif, xic, xsw, xai, xal, xhi, xhv, xrf, xret, xrtl, xrtf, xrtd, xrta, xrtv, xfit, xnew, cond_true, cond_false, f40, f41, f42, f43, List.length_cons, List.length_nil, Nat.reduceAdd, Nat.reduceSub, Nat.reduceMul, Nat.reduceBEq, List.map_cons, List.map_nil, List.headD_cons, List.getElem?_cons_zero, List.getElem?_cons_succ, List.set_cons_zero, List.set_cons_succ]
    have e0 : (if (0 : Nat) = 0 then lonN (plN N) (N.getD 1 0) (N.getD 0 0) else shoN (plN N) (N.getD 1 0) (N.getD 0 0)) = lonN (plN N) (N.getD 1 0) (N.getD 0 0) := if_pos rfl
    have e1 : (if (1 : Nat) = 0 then lonN (plN N) (N.getD 1 0) (N.getD 0 0) else shoN (plN N) (N.getD 1 0) (N.getD 0 0)) = shoN (plN N) (N.getD 1 0) (N.getD 0 0) := if_neg (by decide)
    rw [e0, e1]
    exact lP 4 0 (dgB N (dgA N sv)) P g rfl gk ex0 fun P g gk ex => f10 _ P g gk ex rfl
  refine hK 0 _ _ _ _ _ _ _ _ rfl ?_
  dsimp only [k_B_digest_0, hN1, hB, hM1, hM, wpI, xop, xcall, xli, xlj, xlf, xld, xla, xlg, xst, xst2, xc1, pI, pJ, pF, pD, pR, pA, p1, p0, xpop, xpush, xsm, xhas, xif, xic, xsw, xai, xal, xhi, xhv, xrf, xret, xrtl, xrtf, xrtd, xrta, xrtv, xfit, xnew, cond_true, cond_false, f40, f41, f42, f43, List.length_cons, List.length_nil, Nat.reduceAdd, Nat.reduceSub, Nat.reduceMul, Nat.reduceBEq, List.map_cons, List.map_nil, List.headD_cons, List.getElem?_cons_zero, List.getElem?_cons_succ, List.set_cons_zero, List.set_cons_succ]
  refine lC 10 0 (lN 3323) rfl fun c s L3 ec es => ?_
  subst ec es
  refine hK 2 _ _ _ _ _ _ _ _ rfl ?_
  dsimp only [k_B_digest_2, hN1, hB, hM1, hM, wpI, xop, xcall, xli, xlj, xlf, xld, xla, xlg, xst, xst2, xc1, pI, pJ, pF, pD, pR, pA, p1, p0, xpop, xpush, xsm, xhas, xif, xic, xsw, xai, xal, xhi, xhv, xrf, xret, xrtl, xrtf, xrtd, xrta, xrtv, xfit, xnew, cond_true, cond_false, f40, f41, f42, f43, List.length_cons, List.length_nil, Nat.reduceAdd, Nat.reduceSub, Nat.reduceMul, Nat.reduceBEq, List.map_cons, List.map_nil, List.headD_cons, List.getElem?_cons_zero, List.getElem?_cons_succ, List.set_cons_zero, List.set_cons_succ]
  refine lS 3 0 _ rfl fun L3 => ?_
  refine hK 4 _ _ _ _ _ _ _ _ rfl ?_
  dsimp only [k_B_digest_4, hN1, hB, hM1, hM, wpI, xop, xcall, xli, xlj, xlf, xld, xla, xlg, xst, xst2, xc1, pI, pJ, pF, pD, pR, pA, p1, p0, xpop, xpush, xsm, xhas, xif, xic, xsw, xai, xal, xhi, xhv, xrf, xret, xrtl, xrtf, xrtd, xrta, xrtv, xfit, xnew, cond_true, cond_false, f40, f41, f42, f43, List.length_cons, List.length_nil, Nat.reduceAdd, Nat.reduceSub, Nat.reduceMul, Nat.reduceBEq, List.map_cons, List.map_nil, List.headD_cons, List.getElem?_cons_zero, List.getElem?_cons_succ, List.set_cons_zero, List.set_cons_succ]
  exact lR 5 0 _ rfl f6
