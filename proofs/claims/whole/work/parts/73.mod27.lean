/-! the model: digest -/
set_option maxRecDepth 100000 in
set_option maxHeartbeats 4000000 in
theorem ev_M_count0 (d i k : Nat) (z : Nat → xC) (N B K' T O D D2 : List Nat) (laid : Int32) (len st many at' thr : Nat) (isK : Bool) (g : xH) (ok : stM N) (li : liD N D2 laid D) (h2 : ∀ j, D2.getD j 0 < 2 ^ 20) (hi : i < 132) (hm : N.getD 0 0 = gS i) (hk : k < 10) :
    Ev xT (d + 10) N_M_count [.ref 7, .int (nI k)] (hM z N B K' T O shapesN D laid len st many at' thr isK g) (fun v h => v = some (.int (mcoR N D2 i st k)) ∧ ∃ laid D, liD N D2 laid D ∧ h = hM z N B K' T O shapesN D laid len st many at' 0 isK g) NX := by
  have key : ∀ k, k < 10 → mcoE (nI k) = 0 := by decide +kernel
  have h := ev_M_count d i (nI k) z N B K' T O D laid len st many at' thr isK g ok li.2.1 li.2.2 hi hm
  rw [li.1, n_cl (by omega), key k hk] at h
  refine Ev_mono h (fun v g' q => q.elim (fun q => ⟨q.2.1, ?_⟩) (fun q => (q.1 rfl).elim)) (fun _ _ q => q)
  rw [q.2.2]
  split
  · exact ⟨_, _, liD_2 li h2, rfl⟩
  · exact ⟨_, _, li, rfl⟩
set_option maxRecDepth 100000 in
set_option maxHeartbeats 4000000 in
theorem ev_M_wins0 (d i t : Nat) (z : Nat → xC) (N B K' T O D D2 : List Nat) (laid : Int32) (len st many at' thr : Nat) (isK : Bool) (g : xH) (ok : stM N) (li : liD N D2 laid D) (hi : i < 132) (hm : N.getD 0 0 = gS i) (ht : t < 2) :
    Ev xT (d + 9) N_M_wins [.ref 7, .int (nI t)] (hM z N B K' T O shapesN D laid len st many at' thr isK g) (Rt (some (.int (nI (D2.getD (8 * i + 4 * t) 0)))) (hM z N B K' T O shapesN D2 (nI (sI N)) len st many at' 0 isK g)) NX := by
  have key : ∀ w, w < 2 → mtuE (nI w) = 0 := by decide +kernel
  have h := ev_M_wins d i (nI t) z N B K' T O D laid len st many at' thr isK g ok li.2.1 li.2.2 hi hm
  rw [li.1, n_cl (by omega), key t ht] at h
  exact Ev_mono h (fun v g q => q.elim (fun q => ⟨q.2.1, q.2.2⟩) (fun q => (q.1 rfl).elim)) (fun _ _ q => q)
set_option maxRecDepth 100000 in
set_option maxHeartbeats 4000000 in
theorem ev_M_length0 (d i t : Nat) (z : Nat → xC) (N B K' T O D D2 : List Nat) (laid : Int32) (len st many at' thr : Nat) (isK : Bool) (g : xH) (ok : stM N) (li : liD N D2 laid D) (hi : i < 132) (hm : N.getD 0 0 = gS i) (ht : t < 2) :
    Ev xT (d + 9) N_M_length [.ref 7, .int (nI t)] (hM z N B K' T O shapesN D laid len st many at' thr isK g) (Rt (some (.int (nI (D2.getD (8 * i + 4 * N.getD 1 0 + (2 + t)) 0)))) (hM z N B K' T O shapesN D2 (nI (sI N)) len st many at' 0 isK g)) NX := by
  have key : ∀ w, w < 2 → mtuE (nI w) = 0 := by decide +kernel
  have h := ev_M_length d i (nI t) z N B K' T O D laid len st many at' thr isK g ok li.2.1 li.2.2 hi hm
  rw [li.1, n_cl (by omega), key t ht] at h
  exact Ev_mono h (fun v g q => q.elim (fun q => ⟨q.2.1, q.2.2⟩) (fun q => (q.1 rfl).elim)) (fun _ _ q => q)
set_option maxRecDepth 100000 in
set_option maxHeartbeats 4000000 in
theorem ev_M_best0 (d i : Nat) (z : Nat → xC) (N B K' T O D D2 : List Nat) (laid : Int32) (len st many at' thr : Nat) (isK : Bool) (g : xH) (ok : stM N) (li : liD N D2 laid D) (hi : i < 132) (hm : N.getD 0 0 = gS i) :
    Ev xT (d + 8) N_M_best [.ref 7] (hM z N B K' T O shapesN D laid len st many at' thr isK g) (Rt (some (.int (mbeL N D2 15 (-1)))) (hM z N B K' T O shapesN D2 (nI (sI N)) len st many at' 0 isK g)) NX := by
  have h := ev_M_best d i z N B K' T O D laid len st many at' thr isK g ok li.2.1 li.2.2 hi hm
  rw [li.1] at h
  exact h
set_option maxRecDepth 100000 in
set_option maxHeartbeats 4000000 in
theorem ev_M_row0 (d r w : Nat) (z : Nat → xC) (N B K' T O R D : List Nat) (laid : Int32) (len st many at' thr : Nat) (isK : Bool) (g : xH) (ok : stM N) (hr : r < 5) (hw : w < 6) :
    Ev xT (d + 6) N_M_row [.ref 7, .int (nI r), .int (nI w)] (hM z N B K' T O R D laid len st many at' thr isK g) (Rt (some (.int (mroR N r w))) (hM z N B K' T O R D laid len st many at' 0 isK g)) NX := by
  have key : ∀ r, r < 5 → ∀ w, w < 6 → mroE (nI r) (nI w) = 0 := by decide +kernel
  have h := ev_M_row d (nI r) (nI w) z N B K' T O R D laid len st many at' thr isK g ok
  rw [n_cl (by omega), n_cl (by omega), key r hr w hw] at h
  exact Ev_mono h (fun v g q => q.elim (fun q => ⟨q.2.1, q.2.2⟩) (fun q => (q.1 rfl).elim)) (fun _ _ q => q)
set_option maxRecDepth 100000 in
set_option maxHeartbeats 4000000 in
theorem ev_M_why0 (d r b : Nat) (z : Nat → xC) (N B K' T O R D : List Nat) (laid : Int32) (len st many at' thr : Nat) (isK : Bool) (g : xH) (ok : stM N) (hr : r < 5) (hb : 1 ≤ b) (hb5 : b ≤ 5) :
    Ev xT (d + 5) N_M_why [.ref 7, .int (nI r), .int (nI b)] (hM z N B K' T O R D laid len st many at' thr isK g) (Rt (some (.int (nI (mrsN N (N.getD 0 0) (N.getD 1 0) r b)))) (hM z N B K' T O R D laid len st many at' 0 isK g)) NX := by
  have key : ∀ r, r < 5 → ∀ b, b < 6 → 1 ≤ b → mwyE (nI r) (nI b) = 0 := by decide +kernel
  have h := ev_M_why d (nI r) (nI b) z N B K' T O R D laid len st many at' thr isK g ok
  rw [n_cl (by omega), n_cl (by omega), key r hr b (by omega) hb] at h
  exact Ev_mono h (fun v g q => q.elim (fun q => ⟨q.2.1, q.2.2⟩) (fun q => (q.1 rfl).elim)) (fun _ _ q => q)
set_option maxRecDepth 100000 in
set_option maxHeartbeats 4000000 in
theorem ev_M_falls0 (d r b : Nat) (z : Nat → xC) (N B K' T O R D : List Nat) (laid : Int32) (len st many at' thr : Nat) (isK : Bool) (g : xH) (ok : stM N) (hr : r < 5) (hb : 1 ≤ b) (hb5 : b ≤ 5) :
    Ev xT (d + 5) N_M_falls [.ref 7, .int (nI r), .int (nI b)] (hM z N B K' T O R D laid len st many at' thr isK g) (Rt (some (.int (mfaI N r b))) (hM z N B K' T O R D laid len st many at' 0 isK g)) NX := by
  have key : ∀ r, r < 5 → ∀ b, b < 6 → 1 ≤ b → mwyE (nI r) (nI b) = 0 := by decide +kernel
  have h := ev_M_falls d (nI r) (nI b) z N B K' T O R D laid len st many at' thr isK g ok
  rw [n_cl (by omega), n_cl (by omega), key r hr b (by omega) hb] at h
  exact Ev_mono h (fun v g q => q.elim (fun q => ⟨q.2.1, q.2.2⟩) (fun q => (q.1 rfl).elim)) (fun _ _ q => q)
def mdC (N D : List Nat) (i st : Nat) : Nat → Nat → Int64 → Int64
  | 0, _, h => h
  | j + 1, k, h => mdC N D i st j (k + 1) (lN 31 * h + (mcoR N D i st k).toInt64)
def mdS (N : List Nat) : Nat → Nat → Int64 → Int64
  | 0, _, h => h
  | j + 1, k, h => mdS N j (k + 1) (lN 31 * h + (nI (N.getD (6 + k) 0)).toInt64)
def mdW (N : List Nat) (r : Nat) : Nat → Nat → Int64 → Int64
  | 0, _, h => h
  | j + 1, k, h => mdW N r j (k + 1) (lN 31 * h + (mroR N r k).toInt64)
def mdF (N : List Nat) (r : Nat) : Nat → Nat → Int64 → Int64
  | 0, _, h => h
  | j + 1, b, h => mdF N r j (b + 1) (lN 31 * (lN 31 * h + (nI (mrsN N (N.getD 0 0) (N.getD 1 0) r b)).toInt64) + (mfaI N r b).toInt64)
def mdR (N : List Nat) : Nat → Nat → Int64 → Int64
  | 0, _, h => h
  | j + 1, r, h => mdR N j (r + 1) (mdF N r 3 1 (mdW N r 6 0 h))
def mdP (D : List Nat) : Nat → Nat → Int64 → Int64
  | 0, _, h => h
  | j + 1, w, h => mdP D j (w + 1) (lN 31 * h + (nI (myL D w 132 0 0)).toInt64)
def mdB (N D : List Nat) (i : Nat) (h : Int64) : Int64 := lN 31 * (lN 31 * (lN 31 * (lN 31 * (lN 31 * h + (nI (D.getD (8 * i + 4 * 0) 0)).toInt64) + (nI (D.getD (8 * i + 4 * 1) 0)).toInt64) + (mbeL N D 15 (-1)).toInt64) + (nI (D.getD (8 * i + 4 * N.getD 1 0 + (2 + 0)) 0)).toInt64) + (nI (D.getD (8 * i + 4 * N.getD 1 0 + (2 + 1)) 0)).toInt64
def mdT (N D T : List Nat) (len : Nat) (isK : Bool) (h : Int64) : Int64 := hbL T len 0 (lN 31 * (lN 31 * (lN 31 * (lN 31 * h + (bsF (N.getD 4 0) (N.getD 4 0 + N.getD 2 0 + N.getD 3 0)).toInt64) + (wsF (myL D (1 + N.getD 1 0) 132 0 0)).toInt32.toInt64) + (bI isK).toInt64) + (nI len).toInt64)
def mdN (N D T : List Nat) (i st len : Nat) (isK : Bool) : Int64 := mdT N D T len isK (mdP D 4 0 (mdB N D i (mdR N 5 0 (mdS N 3 0 (mdC N D i st 10 0 (lN 3323))))))
theorem bsF_ne (b g : Nat) : FP.Core.val64 (bsF b g) ≠ .nan := by
  unfold bsF
  split
  · decide +kernel
  · next h => exact n64_ne (bsF_n b g h)
set_option maxRecDepth 100000 in
set_option maxHeartbeats 4000000 in
theorem ev_M_digest (d i : Nat) (z : Nat → xC) (N B K' T O D D2 : List Nat) (laid : Int32) (len st many at' thr : Nat) (isK : Bool) (g : xH) (ok : stM N) (li : liD N D2 laid D) (h2 : ∀ j, D2.getD j 0 < 2 ^ 20) (hi : i < 132) (hm : N.getD 0 0 = gS i) (hT : T.length = 60) (hl : len ≤ 60) :
    Ev xT (d + 11) N_M_digest [.ref 7] (hM z N B K' T O shapesN D laid len st many at' thr isK g) (Rt (some (.long (mdN N D2 T i st len isK))) (hM z N B K' T O shapesN D2 (nI (sI N)) len st many at' 0 isK g)) NX := by
  refine Ev_intro t_M_digest (Nat.le_of_ble_eq_true rfl) ?_
  intro Q X hQ hX K hK
  show K 0 [some (.ref 7), none, none, none, none] [] _ 0 0
  have ok' := ok
  obtain ⟨hN, h0, h1, h6, h6', h7, h8⟩ := ok
  have hq := hQ _ _ ⟨rfl, rfl⟩
  unfold mdN at hq
  have lC : ∀ (j k thr : Nat) (y : Int64) (laid : Int32) (D : List Nat), k + j = 10 → liD N D2 laid D → (∀ laid D L3 thr, liD N D2 laid D → K 2 [some (.ref 7), some (.long (mdC N D2 i st j k y)), none, L3, none] [] (hM z N B K' T O shapesN D laid len st many at' thr isK g) 0 0) → K 1 [some (.ref 7), some (.long y), none, some (.int (nI k)), none] [] (hM z N B K' T O shapesN D laid len st many at' thr isK g) 0 0 := by
    intro j
    induction j with
    | zero =>
      intro k thr y laid D hk li hn
      obtain rfl : k = 10 := by omega
      refine hK 1 _ _ _ _ _ _ _ _ rfl ?_
      dsimp only [k_M_digest_1, hN1, hB, hM1, hM, wpI, xop, xcall, xli, xlj, xlf, xld, xla, xlg, xst, xst2, xc1, pI, pJ, pF, pD, pR, pA, p1, p0, xpop, xpush, xsm, xhas, xif, xic, xsw, xai, xal, xhi, xhv, xrf, xret, xrtl, xrtf, xrtd, xrta, xrtv, xfit, xnew, cond_true, cond_false, f40, f41, f42, f43, List.length_cons, List.length_nil, Nat.reduceAdd, Nat.reduceSub, Nat.reduceMul, Nat.reduceBEq, List.map_cons, List.map_nil, List.headD_cons, List.getElem?_cons_zero, List.getElem?_cons_succ, List.set_cons_zero, List.set_cons_succ]
      refine br_t (by decide) ?_
      exact hn _ _ _ _ li
    | succ j ih =>
      intro k thr y laid D hk li hn
      rw [mdC] at hn
      refine hK 1 _ _ _ _ _ _ _ _ rfl ?_
      dsimp only [k_M_digest_1, hN1, hB, hM1, hM, wpI, xop, xcall, xli, xlj, xlf, xld, xla, xlg, xst, xst2, xc1, pI, pJ, pF, pD, pR, pA, p1, p0, xpop, xpush, xsm, xhas, xif, xic, xsw, xai, xal, xhi, xhv, xrf, xret, xrtl, xrtf, xrtd, xrta, xrtv, xfit, xnew, cond_true, cond_false, f40, f41, f42, f43, List.length_cons, List.length_nil, Nat.reduceAdd, Nat.reduceSub, Nat.reduceMul, Nat.reduceBEq, List.map_cons, List.map_nil, List.headD_cons, List.getElem?_cons_zero, List.getElem?_cons_succ, List.set_cons_zero, List.set_cons_succ]
      try simp (disch := omega) only [nI_add, n_and, n_or, n_xor, n_i31, nI_leI, nI_ltI, n_e0, n_eq, n_m1e, n_l0, n_g0, n_p0, n_q0, n_cl, n_in, n_sub, n_shr, n_shl, n_div, bI_0, n_01, n_11, bI_or, not_false_eq_true, forall_const, not_true_eq_false, false_imp_iff, true_imp_iff]
      refine br_f (by omega) ?_
      refine Ev_of (ev_M_count0 _ i k z N B K' T O D D2 laid len st many at' thr isK g ok' li h2 hi hm (by omega)) ?_
      rintro v h' ⟨rfl, laid, D, li, rfl⟩
      dsimp only [hN1, hB, hM1, hM, wpI, xop, xcall, xli, xlj, xlf, xld, xla, xlg, xst, xst2, xc1, pI, pJ, pF, pD, pR, pA, p1, p0, xpop, xpush, xsm, xhas, xif, xic, xsw, xai, xal, xhi, xhv, xrf, xret, xrtl, xrtf, xrtd, xrta, xrtv, xfit, xnew, cond_true, cond_false, f40, f41, f42, f43, List.length_cons, List.length_nil, Nat.reduceAdd, Nat.reduceSub, Nat.reduceMul, Nat.reduceBEq, List.map_cons, List.map_nil, List.headD_cons, List.getElem?_cons_zero, List.getElem?_cons_succ, List.set_cons_zero, List.set_cons_succ]
      try simp (disch := omega) only [nI_add, n_and, n_or, n_xor, n_i31, nI_leI, nI_ltI, n_e0, n_eq, n_m1e, n_l0, n_g0, n_p0, n_q0, n_cl, n_in, n_sub, n_shr, n_shl, n_div, bI_0, n_01, n_11, bI_or, not_false_eq_true, forall_const, not_true_eq_false, false_imp_iff, true_imp_iff]
      exact ih (k + 1) 0 _ _ _ (by omega) li hn
  have lS : ∀ (j k thr : Nat) (y : Int64) (laid : Int32) (D : List Nat), k + j = 3 → (∀ L3, K 4 [some (.ref 7), some (.long (mdS N j k y)), none, L3, none] [] (hM z N B K' T O shapesN D laid len st many at' thr isK g) 0 0) → K 3 [some (.ref 7), some (.long y), none, some (.int (nI k)), none] [] (hM z N B K' T O shapesN D laid len st many at' thr isK g) 0 0 := by
    intro j
    induction j with
    | zero =>
      intro k thr y laid D hk hn
      obtain rfl : k = 3 := by omega
      refine hK 3 _ _ _ _ _ _ _ _ rfl ?_
      dsimp only [k_M_digest_3, hN1, hB, hM1, hM, wpI, xop, xcall, xli, xlj, xlf, xld, xla, xlg, xst, xst2, xc1, pI, pJ, pF, pD, pR, pA, p1, p0, xpop, xpush, xsm, xhas, xif, xic, xsw, xai, xal, xhi, xhv, xrf, xret, xrtl, xrtf, xrtd, xrta, xrtv, xfit, xnew, cond_true, cond_false, f40, f41, f42, f43, List.length_cons, List.length_nil, Nat.reduceAdd, Nat.reduceSub, Nat.reduceMul, Nat.reduceBEq, List.map_cons, List.map_nil, List.headD_cons, List.getElem?_cons_zero, List.getElem?_cons_succ, List.set_cons_zero, List.set_cons_succ]
      refine br_t (by decide) ?_
      exact hn _
    | succ j ih =>
      intro k thr y laid D hk hn
      rw [mdS] at hn
      refine hK 3 _ _ _ _ _ _ _ _ rfl ?_
      dsimp only [k_M_digest_3, hN1, hB, hM1, hM, wpI, xop, xcall, xli, xlj, xlf, xld, xla, xlg, xst, xst2, xc1, pI, pJ, pF, pD, pR, pA, p1, p0, xpop, xpush, xsm, xhas, xif, xic, xsw, xai, xal, xhi, xhv, xrf, xret, xrtl, xrtf, xrtd, xrta, xrtv, xfit, xnew, cond_true, cond_false, f40, f41, f42, f43, List.length_cons, List.length_nil, Nat.reduceAdd, Nat.reduceSub, Nat.reduceMul, Nat.reduceBEq, List.map_cons, List.map_nil, List.headD_cons, List.getElem?_cons_zero, List.getElem?_cons_succ, List.set_cons_zero, List.set_cons_succ]
      try simp (disch := first | omega | (simp only [List.length_set]; omega)) only [nI_add, n_and, n_or, n_xor, n_i31, nI_leI, nI_ltI, n_e0, n_eq, n_m1e, n_l0, n_g0, n_p0, n_q0, n_cl, n_in, n_sub, n_shr, n_shl, n_div, bI_0, n_01, n_11, bI_or, not_false_eq_true, forall_const, not_true_eq_false, false_imp_iff, true_imp_iff, List.length_map, List.length_set, hN, nL_u, gs_eq, gs_ne, nI_set, Nat.reduceLT, true_and, and_true, pk_mul]
      refine br_f (by omega) ⟨by omega, ?_⟩
      exact ih (k + 1) _ _ _ _ (by omega) hn
  have lF : ∀ (j b r thr : Nat) (y : Int64) (laid : Int32) (D : List Nat), b + j = 4 → 1 ≤ b → r < 5 → (∀ L4 thr, K 9 [some (.ref 7), some (.long (mdF N r j b y)), none, some (.int (nI r)), L4] [] (hM z N B K' T O shapesN D laid len st many at' thr isK g) 0 0) → K 8 [some (.ref 7), some (.long y), none, some (.int (nI r)), some (.int (nI b))] [] (hM z N B K' T O shapesN D laid len st many at' thr isK g) 0 0 := by
    intro j
    induction j with
    | zero =>
      intro b r thr y laid D hb hb1 hr hn
      obtain rfl : b = 4 := by omega
      refine hK 8 _ _ _ _ _ _ _ _ rfl ?_
      dsimp only [k_M_digest_8, hN1, hB, hM1, hM, wpI, xop, xcall, xli, xlj, xlf, xld, xla, xlg, xst, xst2, xc1, pI, pJ, pF, pD, pR, pA, p1, p0, xpop, xpush, xsm, xhas, xif, xic, xsw, xai, xal, xhi, xhv, xrf, xret, xrtl, xrtf, xrtd, xrta, xrtv, xfit, xnew, cond_true, cond_false, f40, f41, f42, f43, List.length_cons, List.length_nil, Nat.reduceAdd, Nat.reduceSub, Nat.reduceMul, Nat.reduceBEq, List.map_cons, List.map_nil, List.headD_cons, List.getElem?_cons_zero, List.getElem?_cons_succ, List.set_cons_zero, List.set_cons_succ]
      refine br_t (by decide) ?_
      exact hn _ _
    | succ j ih =>
      intro b r thr y laid D hb hb1 hr hn
      rw [mdF] at hn
      refine hK 8 _ _ _ _ _ _ _ _ rfl ?_
      dsimp only [k_M_digest_8, hN1, hB, hM1, hM, wpI, xop, xcall, xli, xlj, xlf, xld, xla, xlg, xst, xst2, xc1, pI, pJ, pF, pD, pR, pA, p1, p0, xpop, xpush, xsm, xhas, xif, xic, xsw, xai, xal, xhi, xhv, xrf, xret, xrtl, xrtf, xrtd, xrta, xrtv, xfit, xnew, cond_true, cond_false, f40, f41, f42, f43, List.length_cons, List.length_nil, Nat.reduceAdd, Nat.reduceSub, Nat.reduceMul, Nat.reduceBEq, List.map_cons, List.map_nil, List.headD_cons, List.getElem?_cons_zero, List.getElem?_cons_succ, List.set_cons_zero, List.set_cons_succ]
      try simp (disch := omega) only [nI_add, n_and, n_or, n_xor, n_i31, nI_leI, nI_ltI, n_e0, n_eq, n_m1e, n_l0, n_g0, n_p0, n_q0, n_cl, n_in, n_sub, n_shr, n_shl, n_div, bI_0, n_01, n_11, bI_or, not_false_eq_true, forall_const, not_true_eq_false, false_imp_iff, true_imp_iff]
      refine br_f (by omega) ?_
      refine Ev_use (ev_M_why0 _ r b z N B K' T O shapesN D laid len st many at' thr isK g ok' hr hb1 (by omega)) ?_
      dsimp only [hN1, hB, hM1, hM, wpI, xop, xcall, xli, xlj, xlf, xld, xla, xlg, xst, xst2, xc1, pI, pJ, pF, pD, pR, pA, p1, p0, xpop, xpush, xsm, xhas, xif, xic, xsw, xai, xal, xhi, xhv, xrf, xret, xrtl, xrtf, xrtd, xrta, xrtv, xfit, xnew, cond_true, cond_false, f40, f41, f42, f43, List.length_cons, List.length_nil, Nat.reduceAdd, Nat.reduceSub, Nat.reduceMul, Nat.reduceBEq, List.map_cons, List.map_nil, List.headD_cons, List.getElem?_cons_zero, List.getElem?_cons_succ, List.set_cons_zero, List.set_cons_succ]
      refine Ev_use (ev_M_falls0 _ r b z N B K' T O shapesN D laid len st many at' 0 isK g ok' hr hb1 (by omega)) ?_
      dsimp only [hN1, hB, hM1, hM, wpI, xop, xcall, xli, xlj, xlf, xld, xla, xlg, xst, xst2, xc1, pI, pJ, pF, pD, pR, pA, p1, p0, xpop, xpush, xsm, xhas, xif, xic, xsw, xai, xal, xhi, xhv, xrf, xret, xrtl, xrtf, xrtd, xrta, xrtv, xfit, xnew, cond_true, cond_false, f40, f41, f42, f43, List.length_cons, List.length_nil, Nat.reduceAdd, Nat.reduceSub, Nat.reduceMul, Nat.reduceBEq, List.map_cons, List.map_nil, List.headD_cons, List.getElem?_cons_zero, List.getElem?_cons_succ, List.set_cons_zero, List.set_cons_succ]
      try simp (disch := omega) only [nI_add, n_and, n_or, n_xor, n_i31, nI_leI, nI_ltI, n_e0, n_eq, n_m1e, n_l0, n_g0, n_p0, n_q0, n_cl, n_in, n_sub, n_shr, n_shl, n_div, bI_0, n_01, n_11, bI_or, not_false_eq_true, forall_const, not_true_eq_false, false_imp_iff, true_imp_iff]
      exact ih (b + 1) r _ _ _ _ (by omega) (by omega) hr hn
  have lW : ∀ (j w r thr : Nat) (y : Int64) (laid : Int32) (D : List Nat), w + j = 6 → r < 5 → (∀ L4 thr, K 7 [some (.ref 7), some (.long (mdW N r j w y)), none, some (.int (nI r)), L4] [] (hM z N B K' T O shapesN D laid len st many at' thr isK g) 0 0) → K 6 [some (.ref 7), some (.long y), none, some (.int (nI r)), some (.int (nI w))] [] (hM z N B K' T O shapesN D laid len st many at' thr isK g) 0 0 := by
    intro j
    induction j with
    | zero =>
      intro w r thr y laid D hw hr hn
      obtain rfl : w = 6 := by omega
      refine hK 6 _ _ _ _ _ _ _ _ rfl ?_
      dsimp only [k_M_digest_6, hN1, hB, hM1, hM, wpI, xop, xcall, xli, xlj, xlf, xld, xla, xlg, xst, xst2, xc1, pI, pJ, pF, pD, pR, pA, p1, p0, xpop, xpush, xsm, xhas, xif, xic, xsw, xai, xal, xhi, xhv, xrf, xret, xrtl, xrtf, xrtd, xrta, xrtv, xfit, xnew, cond_true, cond_false, f40, f41, f42, f43, List.length_cons, List.length_nil, Nat.reduceAdd, Nat.reduceSub, Nat.reduceMul, Nat.reduceBEq, List.map_cons, List.map_nil, List.headD_cons, List.getElem?_cons_zero, List.getElem?_cons_succ, List.set_cons_zero, List.set_cons_succ]
      refine br_t (by decide) ?_
      exact hn _ _
    | succ j ih =>
      intro w r thr y laid D hw hr hn
      rw [mdW] at hn
      refine hK 6 _ _ _ _ _ _ _ _ rfl ?_
      dsimp only [k_M_digest_6, hN1, hB, hM1, hM, wpI, xop, xcall, xli, xlj, xlf, xld, xla, xlg, xst, xst2, xc1, pI, pJ, pF, pD, pR, pA, p1, p0, xpop, xpush, xsm, xhas, xif, xic, xsw, xai, xal, xhi, xhv, xrf, xret, xrtl, xrtf, xrtd, xrta, xrtv, xfit, xnew, cond_true, cond_false, f40, f41, f42, f43, List.length_cons, List.length_nil, Nat.reduceAdd, Nat.reduceSub, Nat.reduceMul, Nat.reduceBEq, List.map_cons, List.map_nil, List.headD_cons, List.getElem?_cons_zero, List.getElem?_cons_succ, List.set_cons_zero, List.set_cons_succ]
      try simp (disch := omega) only [nI_add, n_and, n_or, n_xor, n_i31, nI_leI, nI_ltI, n_e0, n_eq, n_m1e, n_l0, n_g0, n_p0, n_q0, n_cl, n_in, n_sub, n_shr, n_shl, n_div, bI_0, n_01, n_11, bI_or, not_false_eq_true, forall_const, not_true_eq_false, false_imp_iff, true_imp_iff]
      refine br_f (by omega) ?_
      refine Ev_use (ev_M_row0 _ r w z N B K' T O shapesN D laid len st many at' thr isK g ok' hr (by omega)) ?_
      dsimp only [hN1, hB, hM1, hM, wpI, xop, xcall, xli, xlj, xlf, xld, xla, xlg, xst, xst2, xc1, pI, pJ, pF, pD, pR, pA, p1, p0, xpop, xpush, xsm, xhas, xif, xic, xsw, xai, xal, xhi, xhv, xrf, xret, xrtl, xrtf, xrtd, xrta, xrtv, xfit, xnew, cond_true, cond_false, f40, f41, f42, f43, List.length_cons, List.length_nil, Nat.reduceAdd, Nat.reduceSub, Nat.reduceMul, Nat.reduceBEq, List.map_cons, List.map_nil, List.headD_cons, List.getElem?_cons_zero, List.getElem?_cons_succ, List.set_cons_zero, List.set_cons_succ]
      try simp (disch := omega) only [nI_add, n_and, n_or, n_xor, n_i31, nI_leI, nI_ltI, n_e0, n_eq, n_m1e, n_l0, n_g0, n_p0, n_q0, n_cl, n_in, n_sub, n_shr, n_shl, n_div, bI_0, n_01, n_11, bI_or, not_false_eq_true, forall_const, not_true_eq_false, false_imp_iff, true_imp_iff]
      exact ih (w + 1) r _ _ _ _ (by omega) hr hn
  have lR : ∀ (j r thr : Nat) (y : Int64) (laid : Int32) (D : List Nat) (L4 : Option Value), r + j = 5 → (∀ L3 L4 thr, K 10 [some (.ref 7), some (.long (mdR N j r y)), none, L3, L4] [] (hM z N B K' T O shapesN D laid len st many at' thr isK g) 0 0) → K 5 [some (.ref 7), some (.long y), none, some (.int (nI r)), L4] [] (hM z N B K' T O shapesN D laid len st many at' thr isK g) 0 0 := by
    intro j
    induction j with
    | zero =>
      intro r thr y laid D L4 hr hn
      obtain rfl : r = 5 := by omega
      refine hK 5 _ _ _ _ _ _ _ _ rfl ?_
      dsimp only [k_M_digest_5, hN1, hB, hM1, hM, wpI, xop, xcall, xli, xlj, xlf, xld, xla, xlg, xst, xst2, xc1, pI, pJ, pF, pD, pR, pA, p1, p0, xpop, xpush, xsm, xhas, xif, xic, xsw, xai, xal, xhi, xhv, xrf, xret, xrtl, xrtf, xrtd, xrta, xrtv, xfit, xnew, cond_true, cond_false, f40, f41, f42, f43, List.length_cons, List.length_nil, Nat.reduceAdd, Nat.reduceSub, Nat.reduceMul, Nat.reduceBEq, List.map_cons, List.map_nil, List.headD_cons, List.getElem?_cons_zero, List.getElem?_cons_succ, List.set_cons_zero, List.set_cons_succ]
      refine br_t (by decide) ?_
      exact hn _ _ _
    | succ j ih =>
      intro r thr y laid D L4 hr hn
      rw [mdR] at hn
      refine hK 5 _ _ _ _ _ _ _ _ rfl ?_
      dsimp only [k_M_digest_5, hN1, hB, hM1, hM, wpI, xop, xcall, xli, xlj, xlf, xld, xla, xlg, xst, xst2, xc1, pI, pJ, pF, pD, pR, pA, p1, p0, xpop, xpush, xsm, xhas, xif, xic, xsw, xai, xal, xhi, xhv, xrf, xret, xrtl, xrtf, xrtd, xrta, xrtv, xfit, xnew, cond_true, cond_false, f40, f41, f42, f43, List.length_cons, List.length_nil, Nat.reduceAdd, Nat.reduceSub, Nat.reduceMul, Nat.reduceBEq, List.map_cons, List.map_nil, List.headD_cons, List.getElem?_cons_zero, List.getElem?_cons_succ, List.set_cons_zero, List.set_cons_succ]
      try simp (disch := omega) only [nI_add, n_and, n_or, n_xor, n_i31, nI_leI, nI_ltI, n_e0, n_eq, n_m1e, n_l0, n_g0, n_p0, n_q0, n_cl, n_in, n_sub, n_shr, n_shl, n_div, bI_0, n_01, n_11, bI_or, not_false_eq_true, forall_const, not_true_eq_false, false_imp_iff, true_imp_iff]
      refine br_f (by omega) ?_
      refine lW 6 0 r thr y laid D rfl (by omega) fun L4 thr => ?_
      refine hK 7 _ _ _ _ _ _ _ _ rfl ?_
      dsimp only [k_M_digest_7, hN1, hB, hM1, hM, wpI, xop, xcall, xli, xlj, xlf, xld, xla, xlg, xst, xst2, xc1, pI, pJ, pF, pD, pR, pA, p1, p0, xpop, xpush, xsm, xhas, xif, xic, xsw, xai, xal, xhi, xhv, xrf, xret, xrtl, xrtf, xrtd, xrta, xrtv, xfit, xnew, cond_true, cond_false, f40, f41, f42, f43, List.length_cons, List.length_nil, Nat.reduceAdd, Nat.reduceSub, Nat.reduceMul, Nat.reduceBEq, List.map_cons, List.map_nil, List.headD_cons, List.getElem?_cons_zero, List.getElem?_cons_succ, List.set_cons_zero, List.set_cons_succ]
      refine lF 3 1 r thr _ laid D rfl (by decide) (by omega) fun L4 thr => ?_
      refine hK 9 _ _ _ _ _ _ _ _ rfl ?_
      dsimp only [k_M_digest_9, hN1, hB, hM1, hM, wpI, xop, xcall, xli, xlj, xlf, xld, xla, xlg, xst, xst2, xc1, pI, pJ, pF, pD, pR, pA, p1, p0, xpop, xpush, xsm, xhas, xif, xic, xsw, xai, xal, xhi, xhv, xrf, xret, xrtl, xrtf, xrtd, xrta, xrtv, xfit, xnew, cond_true, cond_false, f40, f41, f42, f43, List.length_cons, List.length_nil, Nat.reduceAdd, Nat.reduceSub, Nat.reduceMul, Nat.reduceBEq, List.map_cons, List.map_nil, List.headD_cons, List.getElem?_cons_zero, List.getElem?_cons_succ, List.set_cons_zero, List.set_cons_succ]
      try simp (disch := omega) only [nI_add, n_and, n_or, n_xor, n_i31, nI_leI, nI_ltI, n_e0, n_eq, n_m1e, n_l0, n_g0, n_p0, n_q0, n_cl, n_in, n_sub, n_shr, n_shl, n_div, bI_0, n_01, n_11, bI_or, not_false_eq_true, forall_const, not_true_eq_false, false_imp_iff, true_imp_iff]
      exact ih (r + 1) thr _ laid D _ (by omega) hn
  have lP : ∀ (j w thr : Nat) (y : Int64) (L4 : Option Value), w + j = 4 → (∀ L3 thr, K 12 [some (.ref 7), some (.long (mdP D2 j w y)), none, L3, L4] [] (hM z N B K' T O shapesN D2 (nI (sI N)) len st many at' thr isK g) 0 0) → K 11 [some (.ref 7), some (.long y), none, some (.int (nI w)), L4] [] (hM z N B K' T O shapesN D2 (nI (sI N)) len st many at' thr isK g) 0 0 := by
    intro j
    induction j with
    | zero =>
      intro w thr y L4 hw hn
      obtain rfl : w = 4 := by omega
      refine hK 11 _ _ _ _ _ _ _ _ rfl ?_
      dsimp only [k_M_digest_11, hN1, hB, hM1, hM, wpI, xop, xcall, xli, xlj, xlf, xld, xla, xlg, xst, xst2, xc1, pI, pJ, pF, pD, pR, pA, p1, p0, xpop, xpush, xsm, xhas, xif, xic, xsw, xai, xal, xhi, xhv, xrf, xret, xrtl, xrtf, xrtd, xrta, xrtv, xfit, xnew, cond_true, cond_false, f40, f41, f42, f43, List.length_cons, List.length_nil, Nat.reduceAdd, Nat.reduceSub, Nat.reduceMul, Nat.reduceBEq, List.map_cons, List.map_nil, List.headD_cons, List.getElem?_cons_zero, List.getElem?_cons_succ, List.set_cons_zero, List.set_cons_succ]
      refine br_t (by decide) ?_
      exact hn _ _
    | succ j ih =>
      intro w thr y L4 hw hn
      rw [mdP] at hn
      refine hK 11 _ _ _ _ _ _ _ _ rfl ?_
      dsimp only [k_M_digest_11, hN1, hB, hM1, hM, wpI, xop, xcall, xli, xlj, xlf, xld, xla, xlg, xst, xst2, xc1, pI, pJ, pF, pD, pR, pA, p1, p0, xpop, xpush, xsm, xhas, xif, xic, xsw, xai, xal, xhi, xhv, xrf, xret, xrtl, xrtf, xrtd, xrta, xrtv, xfit, xnew, cond_true, cond_false, f40, f41, f42, f43, List.length_cons, List.length_nil, Nat.reduceAdd, Nat.reduceSub, Nat.reduceMul, Nat.reduceBEq, List.map_cons, List.map_nil, List.headD_cons, List.getElem?_cons_zero, List.getElem?_cons_succ, List.set_cons_zero, List.set_cons_succ]
      try simp (disch := omega) only [nI_add, n_and, n_or, n_xor, n_i31, nI_leI, nI_ltI, n_e0, n_eq, n_m1e, n_l0, n_g0, n_p0, n_q0, n_cl, n_in, n_sub, n_shr, n_shl, n_div, bI_0, n_01, n_11, bI_or, not_false_eq_true, forall_const, not_true_eq_false, false_imp_iff, true_imp_iff]
      refine br_f (by omega) ?_
      refine Ev_use (ev_M_pyramids0 _ w z N B K' T O D2 D2 (nI (sI N)) len st many at' thr isK g ok' (liD_2 li h2) (by omega)) ?_
      dsimp only [hN1, hB, hM1, hM, wpI, xop, xcall, xli, xlj, xlf, xld, xla, xlg, xst, xst2, xc1, pI, pJ, pF, pD, pR, pA, p1, p0, xpop, xpush, xsm, xhas, xif, xic, xsw, xai, xal, xhi, xhv, xrf, xret, xrtl, xrtf, xrtd, xrta, xrtv, xfit, xnew, cond_true, cond_false, f40, f41, f42, f43, List.length_cons, List.length_nil, Nat.reduceAdd, Nat.reduceSub, Nat.reduceMul, Nat.reduceBEq, List.map_cons, List.map_nil, List.headD_cons, List.getElem?_cons_zero, List.getElem?_cons_succ, List.set_cons_zero, List.set_cons_succ]
      try simp (disch := omega) only [nI_add, n_and, n_or, n_xor, n_i31, nI_leI, nI_ltI, n_e0, n_eq, n_m1e, n_l0, n_g0, n_p0, n_q0, n_cl, n_in, n_sub, n_shr, n_shl, n_div, bI_0, n_01, n_11, bI_or, not_false_eq_true, forall_const, not_true_eq_false, false_imp_iff, true_imp_iff]
      exact ih (w + 1) _ _ _ (by omega) hn
  have lT : ∀ (j k : Nat) (y : Int64) (L4 : Option Value), k + j = len → Q (some (.long (hbL T j k y))) (hM z N B K' T O shapesN D2 (nI (sI N)) len st many at' 0 isK g) → K 15 [some (.ref 7), some (.long y), none, some (.int (nI k)), L4] [] (hM z N B K' T O shapesN D2 (nI (sI N)) len st many at' 0 isK g) 0 0 := by
    intro j
    induction j with
    | zero =>
      intro k y L4 hk hq
      obtain rfl : k = len := by omega
      rw [hbL] at hq
      refine hK 15 _ _ _ _ _ _ _ _ rfl ?_
      dsimp only [k_M_digest_15, hN1, hB, hM1, hM, wpI, xop, xcall, xli, xlj, xlf, xld, xla, xlg, xst, xst2, xc1, pI, pJ, pF, pD, pR, pA, p1, p0, xpop, xpush, xsm, xhas, xif, xic, xsw, xai, xal, xhi, xhv, xrf, xret, xrtl, xrtf, xrtd, xrta, xrtv, xfit, xnew, cond_true, cond_false, f40, f41, f42, f43, List.length_cons, List.length_nil, Nat.reduceAdd, Nat.reduceSub, Nat.reduceMul, Nat.reduceBEq, List.map_cons, List.map_nil, List.headD_cons, List.getElem?_cons_zero, List.getElem?_cons_succ, List.set_cons_zero, List.set_cons_succ]
      try simp (disch := omega) only [nI_add, n_and, n_or, n_xor, n_i31, nI_leI, nI_ltI, n_e0, n_eq, n_m1e, n_l0, n_g0, n_p0, n_q0, n_cl, n_in, n_sub, n_shr, n_shl, n_div, bI_0, n_01, n_11, bI_or, not_false_eq_true, forall_const, not_true_eq_false, false_imp_iff, true_imp_iff]
      refine br_t (by omega) ?_
      refine hK 16 _ _ _ _ _ _ _ _ rfl ?_
      dsimp only [k_M_digest_16, hN1, hB, hM1, hM, wpI, xop, xcall, xli, xlj, xlf, xld, xla, xlg, xst, xst2, xc1, pI, pJ, pF, pD, pR, pA, p1, p0, xpop, xpush, xsm, xhas, xif, xic, xsw, xai, xal, xhi, xhv, xrf, xret, xrtl, xrtf, xrtd, xrta, xrtv, xfit, xnew, cond_true, cond_false, f40, f41, f42, f43, List.length_cons, List.length_nil, Nat.reduceAdd, Nat.reduceSub, Nat.reduceMul, Nat.reduceBEq, List.map_cons, List.map_nil, List.headD_cons, List.getElem?_cons_zero, List.getElem?_cons_succ, List.set_cons_zero, List.set_cons_succ]
      first | exact hq | exact ⟨Nat.le_refl _, hq⟩ | exact ⟨Nat.le_refl _, Nat.le_refl _, hq⟩ | exact ⟨Or.inl rfl, Nat.le_refl _, Nat.le_refl _, hq⟩ | exact ⟨Or.inr rfl, Nat.le_refl _, Nat.le_refl _, hq⟩
    | succ j ih =>
      intro k y L4 hk hq
      rw [hbL] at hq
      refine hK 15 _ _ _ _ _ _ _ _ rfl ?_
      dsimp only [k_M_digest_15, hN1, hB, hM1, hM, wpI, xop, xcall, xli, xlj, xlf, xld, xla, xlg, xst, xst2, xc1, pI, pJ, pF, pD, pR, pA, p1, p0, xpop, xpush, xsm, xhas, xif, xic, xsw, xai, xal, xhi, xhv, xrf, xret, xrtl, xrtf, xrtd, xrta, xrtv, xfit, xnew, cond_true, cond_false, f40, f41, f42, f43, List.length_cons, List.length_nil, Nat.reduceAdd, Nat.reduceSub, Nat.reduceMul, Nat.reduceBEq, List.map_cons, List.map_nil, List.headD_cons, List.getElem?_cons_zero, List.getElem?_cons_succ, List.set_cons_zero, List.set_cons_succ]
      try simp (disch := first | omega | (simp only [List.length_set]; omega)) only [nI_add, n_and, n_or, n_xor, n_i31, nI_leI, nI_ltI, n_e0, n_eq, n_m1e, n_l0, n_g0, n_p0, n_q0, n_cl, n_in, n_sub, n_shr, n_shl, n_div, bI_0, n_01, n_11, bI_or, not_false_eq_true, forall_const, not_true_eq_false, false_imp_iff, true_imp_iff, List.length_map, List.length_set, hN, nL_u, gs_eq, gs_ne, nI_set, Nat.reduceLT, true_and, and_true, pk_mul, hT]
      refine br_f (by omega) ⟨by omega, ?_⟩
      exact ih (k + 1) _ _ (by omega) hq
  have f12 : ∀ (y : Int64) (L3 L4 : Option Value) (thr : Nat), mdT N D2 T len isK y = mdN N D2 T i st len isK → K 12 [some (.ref 7), some (.long y), none, L3, L4] [] (hM z N B K' T O shapesN D2 (nI (sI N)) len st many at' thr isK g) 0 0 := by
    intro y L3 L4 thr e
    unfold mdN at e
    rw [← e] at hq
    unfold mdT at hq
    have hle := myL_le D2 (1 + N.getD 1 0) 132 0 0
    have go14 : ∀ (b : Bool) (x : Int64), b = isK → Q (some (.long (hbL T len 0 (lN 31 * (lN 31 * x + (bI b).toInt64) + (nI len).toInt64)))) (hM z N B K' T O shapesN D2 (nI (sI N)) len st many at' 0 isK g) → K 14 [some (.ref 7), some (.long x), none, L3, L4] [.int (bI b), .long (lN 31 * x)] (hM z N B K' T O shapesN D2 (nI (sI N)) len st many at' 0 isK g) 0 0 := by
      intro b x eb hq
      refine hK 14 _ _ _ _ _ _ _ _ rfl ?_
      dsimp only [k_M_digest_14, hN1, hB, hM1, hM, wpI, xop, xcall, xli, xlj, xlf, xld, xla, xlg, xst, xst2, xc1, pI, pJ, pF, pD, pR, pA, p1, p0, xpop, xpush, xsm, xhas, xif, xic, xsw, xai, xal, xhi, xhv, xrf, xret, xrtl, xrtf, xrtd, xrta, xrtv, xfit, xnew, cond_true, cond_false, f40, f41, f42, f43, List.length_cons, List.length_nil, Nat.reduceAdd, Nat.reduceSub, Nat.reduceMul, Nat.reduceBEq, List.map_cons, List.map_nil, List.headD_cons, List.getElem?_cons_zero, List.getElem?_cons_succ, List.set_cons_zero, List.set_cons_succ]
      exact lT len 0 _ _ (by omega) hq
    refine hK 12 _ _ _ _ _ _ _ _ rfl ?_
    dsimp only [k_M_digest_12, hN1, hB, hM1, hM, wpI, xop, xcall, xli, xlj, xlf, xld, xla, xlg, xst, xst2, xc1, pI, pJ, pF, pD, pR, pA, p1, p0, xpop, xpush, xsm, xhas, xif, xic, xsw, xai, xal, xhi, xhv, xrf, xret, xrtl, xrtf, xrtd, xrta, xrtv, xfit, xnew, cond_true, cond_false, f40, f41, f42, f43, List.length_cons, List.length_nil, Nat.reduceAdd, Nat.reduceSub, Nat.reduceMul, Nat.reduceBEq, List.map_cons, List.map_nil, List.headD_cons, List.getElem?_cons_zero, List.getElem?_cons_succ, List.set_cons_zero, List.set_cons_succ]
    refine Ev_use (ev_M_brokenShare _ z N B K' T O shapesN D2 (nI (sI N)) len st many at' thr isK g hN) ?_
    dsimp only [hN1, hB, hM1, hM, wpI, xop, xcall, xli, xlj, xlf, xld, xla, xlg, xst, xst2, xc1, pI, pJ, pF, pD, pR, pA, p1, p0, xpop, xpush, xsm, xhas, xif, xic, xsw, xai, xal, xhi, xhv, xrf, xret, xrtl, xrtf, xrtd, xrta, xrtv, xfit, xnew, cond_true, cond_false, f40, f41, f42, f43, List.length_cons, List.length_nil, Nat.reduceAdd, Nat.reduceSub, Nat.reduceMul, Nat.reduceBEq, List.map_cons, List.map_nil, List.headD_cons, List.getElem?_cons_zero, List.getElem?_cons_succ, List.set_cons_zero, List.set_cons_succ]
    refine Ev_use (ev_dBits _ _ _ (bsF_ne _ _)) ?_
    dsimp only [hN1, hB, hM1, hM, wpI, xop, xcall, xli, xlj, xlf, xld, xla, xlg, xst, xst2, xc1, pI, pJ, pF, pD, pR, pA, p1, p0, xpop, xpush, xsm, xhas, xif, xic, xsw, xai, xal, xhi, xhv, xrf, xret, xrtl, xrtf, xrtd, xrta, xrtv, xfit, xnew, cond_true, cond_false, f40, f41, f42, f43, List.length_cons, List.length_nil, Nat.reduceAdd, Nat.reduceSub, Nat.reduceMul, Nat.reduceBEq, List.map_cons, List.map_nil, List.headD_cons, List.getElem?_cons_zero, List.getElem?_cons_succ, List.set_cons_zero, List.set_cons_succ]
    refine Ev_use (ev_M_wonShare _ z N B K' T O D2 D2 (nI (sI N)) len st many at' 0 isK g ok' (liD_2 li h2) h2) ?_
    dsimp only [hN1, hB, hM1, hM, wpI, xop, xcall, xli, xlj, xlf, xld, xla, xlg, xst, xst2, xc1, pI, pJ, pF, pD, pR, pA, p1, p0, xpop, xpush, xsm, xhas, xif, xic, xsw, xai, xal, xhi, xhv, xrf, xret, xrtl, xrtf, xrtd, xrta, xrtv, xfit, xnew, cond_true, cond_false, f40, f41, f42, f43, List.length_cons, List.length_nil, Nat.reduceAdd, Nat.reduceSub, Nat.reduceMul, Nat.reduceBEq, List.map_cons, List.map_nil, List.headD_cons, List.getElem?_cons_zero, List.getElem?_cons_succ, List.set_cons_zero, List.set_cons_succ]
    refine Ev_use (ev_fBits _ _ _ (n32_ne (wsF_n (by omega)))) ?_
    dsimp only [hN1, hB, hM1, hM, wpI, xop, xcall, xli, xlj, xlf, xld, xla, xlg, xst, xst2, xc1, pI, pJ, pF, pD, pR, pA, p1, p0, xpop, xpush, xsm, xhas, xif, xic, xsw, xai, xal, xhi, xhv, xrf, xret, xrtl, xrtf, xrtd, xrta, xrtv, xfit, xnew, cond_true, cond_false, f40, f41, f42, f43, List.length_cons, List.length_nil, Nat.reduceAdd, Nat.reduceSub, Nat.reduceMul, Nat.reduceBEq, List.map_cons, List.map_nil, List.headD_cons, List.getElem?_cons_zero, List.getElem?_cons_succ, List.set_cons_zero, List.set_cons_succ]
    rw [bI_0]
    refine ⟨fun q => ?_, fun q => ?_⟩
    · rw [show isK = false from q] at hq
      refine hK 13 _ _ _ _ _ _ _ _ rfl ?_
      dsimp only [k_M_digest_13, hN1, hB, hM1, hM, wpI, xop, xcall, xli, xlj, xlf, xld, xla, xlg, xst, xst2, xc1, pI, pJ, pF, pD, pR, pA, p1, p0, xpop, xpush, xsm, xhas, xif, xic, xsw, xai, xal, xhi, xhv, xrf, xret, xrtl, xrtf, xrtd, xrta, xrtv, xfit, xnew, cond_true, cond_false, f40, f41, f42, f43, List.length_cons, List.length_nil, Nat.reduceAdd, Nat.reduceSub, Nat.reduceMul, Nat.reduceBEq, List.map_cons, List.map_nil, List.headD_cons, List.getElem?_cons_zero, List.getElem?_cons_succ, List.set_cons_zero, List.set_cons_succ]
      exact go14 false _ q.symm (by rw [show isK = false from q]; exact hq)
    · rw [b_nf q] at hq
      exact go14 true _ (b_nf q).symm (by rw [b_nf q]; exact hq)
  refine hK 0 _ _ _ _ _ _ _ _ rfl ?_
  dsimp only [k_M_digest_0, hN1, hB, hM1, hM, wpI, xop, xcall, xli, xlj, xlf, xld, xla, xlg, xst, xst2, xc1, pI, pJ, pF, pD, pR, pA, p1, p0, xpop, xpush, xsm, xhas, xif, xic, xsw, xai, xal, xhi, xhv, xrf, xret, xrtl, xrtf, xrtd, xrta, xrtv, xfit, xnew, cond_true, cond_false, f40, f41, f42, f43, List.length_cons, List.length_nil, Nat.reduceAdd, Nat.reduceSub, Nat.reduceMul, Nat.reduceBEq, List.map_cons, List.map_nil, List.headD_cons, List.getElem?_cons_zero, List.getElem?_cons_succ, List.set_cons_zero, List.set_cons_succ]
  refine lC 10 0 thr (lN 3323) laid D rfl li fun laid D L3 thr li => ?_
  refine hK 2 _ _ _ _ _ _ _ _ rfl ?_
  dsimp only [k_M_digest_2, hN1, hB, hM1, hM, wpI, xop, xcall, xli, xlj, xlf, xld, xla, xlg, xst, xst2, xc1, pI, pJ, pF, pD, pR, pA, p1, p0, xpop, xpush, xsm, xhas, xif, xic, xsw, xai, xal, xhi, xhv, xrf, xret, xrtl, xrtf, xrtd, xrta, xrtv, xfit, xnew, cond_true, cond_false, f40, f41, f42, f43, List.length_cons, List.length_nil, Nat.reduceAdd, Nat.reduceSub, Nat.reduceMul, Nat.reduceBEq, List.map_cons, List.map_nil, List.headD_cons, List.getElem?_cons_zero, List.getElem?_cons_succ, List.set_cons_zero, List.set_cons_succ]
  refine lS 3 0 thr _ laid D rfl fun L3 => ?_
  refine hK 4 _ _ _ _ _ _ _ _ rfl ?_
  dsimp only [k_M_digest_4, hN1, hB, hM1, hM, wpI, xop, xcall, xli, xlj, xlf, xld, xla, xlg, xst, xst2, xc1, pI, pJ, pF, pD, pR, pA, p1, p0, xpop, xpush, xsm, xhas, xif, xic, xsw, xai, xal, xhi, xhv, xrf, xret, xrtl, xrtf, xrtd, xrta, xrtv, xfit, xnew, cond_true, cond_false, f40, f41, f42, f43, List.length_cons, List.length_nil, Nat.reduceAdd, Nat.reduceSub, Nat.reduceMul, Nat.reduceBEq, List.map_cons, List.map_nil, List.headD_cons, List.getElem?_cons_zero, List.getElem?_cons_succ, List.set_cons_zero, List.set_cons_succ]
  refine lR 5 0 thr _ laid D _ rfl fun L3 L4 thr => ?_
  refine hK 10 _ _ _ _ _ _ _ _ rfl ?_
  dsimp only [k_M_digest_10, hN1, hB, hM1, hM, wpI, xop, xcall, xli, xlj, xlf, xld, xla, xlg, xst, xst2, xc1, pI, pJ, pF, pD, pR, pA, p1, p0, xpop, xpush, xsm, xhas, xif, xic, xsw, xai, xal, xhi, xhv, xrf, xret, xrtl, xrtf, xrtd, xrta, xrtv, xfit, xnew, cond_true, cond_false, f40, f41, f42, f43, List.length_cons, List.length_nil, Nat.reduceAdd, Nat.reduceSub, Nat.reduceMul, Nat.reduceBEq, List.map_cons, List.map_nil, List.headD_cons, List.getElem?_cons_zero, List.getElem?_cons_succ, List.set_cons_zero, List.set_cons_succ]
  refine Ev_use (ev_M_wins0 _ i 0 z N B K' T O D D2 laid len st many at' thr isK g ok' li hi hm (by decide)) ?_
  dsimp only [hN1, hB, hM1, hM, wpI, xop, xcall, xli, xlj, xlf, xld, xla, xlg, xst, xst2, xc1, pI, pJ, pF, pD, pR, pA, p1, p0, xpop, xpush, xsm, xhas, xif, xic, xsw, xai, xal, xhi, xhv, xrf, xret, xrtl, xrtf, xrtd, xrta, xrtv, xfit, xnew, cond_true, cond_false, f40, f41, f42, f43, List.length_cons, List.length_nil, Nat.reduceAdd, Nat.reduceSub, Nat.reduceMul, Nat.reduceBEq, List.map_cons, List.map_nil, List.headD_cons, List.getElem?_cons_zero, List.getElem?_cons_succ, List.set_cons_zero, List.set_cons_succ]
  refine Ev_use (ev_M_wins0 _ i 1 z N B K' T O D2 D2 (nI (sI N)) len st many at' 0 isK g ok' (liD_2 li h2) hi hm (by decide)) ?_
  dsimp only [hN1, hB, hM1, hM, wpI, xop, xcall, xli, xlj, xlf, xld, xla, xlg, xst, xst2, xc1, pI, pJ, pF, pD, pR, pA, p1, p0, xpop, xpush, xsm, xhas, xif, xic, xsw, xai, xal, xhi, xhv, xrf, xret, xrtl, xrtf, xrtd, xrta, xrtv, xfit, xnew, cond_true, cond_false, f40, f41, f42, f43, List.length_cons, List.length_nil, Nat.reduceAdd, Nat.reduceSub, Nat.reduceMul, Nat.reduceBEq, List.map_cons, List.map_nil, List.headD_cons, List.getElem?_cons_zero, List.getElem?_cons_succ, List.set_cons_zero, List.set_cons_succ]
  refine Ev_use (ev_M_best0 _ i z N B K' T O D2 D2 (nI (sI N)) len st many at' 0 isK g ok' (liD_2 li h2) hi hm) ?_
  dsimp only [hN1, hB, hM1, hM, wpI, xop, xcall, xli, xlj, xlf, xld, xla, xlg, xst, xst2, xc1, pI, pJ, pF, pD, pR, pA, p1, p0, xpop, xpush, xsm, xhas, xif, xic, xsw, xai, xal, xhi, xhv, xrf, xret, xrtl, xrtf, xrtd, xrta, xrtv, xfit, xnew, cond_true, cond_false, f40, f41, f42, f43, List.length_cons, List.length_nil, Nat.reduceAdd, Nat.reduceSub, Nat.reduceMul, Nat.reduceBEq, List.map_cons, List.map_nil, List.headD_cons, List.getElem?_cons_zero, List.getElem?_cons_succ, List.set_cons_zero, List.set_cons_succ]
  refine Ev_use (ev_M_length0 _ i 0 z N B K' T O D2 D2 (nI (sI N)) len st many at' 0 isK g ok' (liD_2 li h2) hi hm (by decide)) ?_
  dsimp only [hN1, hB, hM1, hM, wpI, xop, xcall, xli, xlj, xlf, xld, xla, xlg, xst, xst2, xc1, pI, pJ, pF, pD, pR, pA, p1, p0, xpop, xpush, xsm, xhas, xif, xic, xsw, xai, xal, xhi, xhv, xrf, xret, xrtl, xrtf, xrtd, xrta, xrtv, xfit, xnew, cond_true, cond_false, f40, f41, f42, f43, List.length_cons, List.length_nil, Nat.reduceAdd, Nat.reduceSub, Nat.reduceMul, Nat.reduceBEq, List.map_cons, List.map_nil, List.headD_cons, List.getElem?_cons_zero, List.getElem?_cons_succ, List.set_cons_zero, List.set_cons_succ]
  refine Ev_use (ev_M_length0 _ i 1 z N B K' T O D2 D2 (nI (sI N)) len st many at' 0 isK g ok' (liD_2 li h2) hi hm (by decide)) ?_
  dsimp only [hN1, hB, hM1, hM, wpI, xop, xcall, xli, xlj, xlf, xld, xla, xlg, xst, xst2, xc1, pI, pJ, pF, pD, pR, pA, p1, p0, xpop, xpush, xsm, xhas, xif, xic, xsw, xai, xal, xhi, xhv, xrf, xret, xrtl, xrtf, xrtd, xrta, xrtv, xfit, xnew, cond_true, cond_false, f40, f41, f42, f43, List.length_cons, List.length_nil, Nat.reduceAdd, Nat.reduceSub, Nat.reduceMul, Nat.reduceBEq, List.map_cons, List.map_nil, List.headD_cons, List.getElem?_cons_zero, List.getElem?_cons_succ, List.set_cons_zero, List.set_cons_succ]
  exact lP 4 0 0 _ _ rfl fun L3 thr => f12 _ _ _ _ rfl
