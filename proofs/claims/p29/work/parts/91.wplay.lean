/-! ===== the law's isPlay: possible thefts, why others are not, who wins ===== -/
theorem xwL_tl {n : Nat} {a : Option Value} {l : xL} (h : xwL n (a :: l)) : xwL n l := by
  cases a
  · exact h
  · exact h.2
set_option maxRecDepth 100000 in
set_option maxHeartbeats 4000000 in
theorem ev_why5 (d : Nat) (N : List Nat) (vs : List Value) (g : xH) (r b : Nat) (ok : stN N) (hr : r < 5) (hb : 1 ≤ b) (hb5 : b ≤ 5) : Ev xT (d + 4) N_B_why [.ref 0, .int (nI r), .int (nI b)] (hN1 N vs g) (Rt (some (.int (nI (rsnN N r b)))) (hN1 N vs g)) NX := by
  have key : ∀ r, r < 5 → ∀ k, k < 5 → whyE (nI r) (nI (k + 1)) = 0 := by decide +kernel
  have h := ev_why d N vs g (nI r) (nI b) ok
  rw [n_cl (by omega), n_cl (by omega)] at h
  have e := key r hr (b - 1) (by omega)
  rw [show b - 1 + 1 = b by omega] at e
  exact Ev_mono h (fun v g q => ⟨q.2.1, q.2.2⟩) (fun _ g q => absurd e q.1)
set_option maxRecDepth 100000 in
set_option maxHeartbeats 4000000 in
theorem ev_falls5 (d : Nat) (N : List Nat) (vs : List Value) (g : xH) (r b : Nat) (ok : stN N) (hr : r < 5) (hb : 1 ≤ b) (hb5 : b ≤ 5) : Ev xT (d + 4) N_B_falls [.ref 0, .int (nI r), .int (nI b)] (hN1 N vs g) (Rt (some (.int (fallI (N.getD 0 0) (N.getD 1 0) r b))) (hN1 N vs g)) NX := by
  have key : ∀ r, r < 5 → ∀ k, k < 5 → whyE (nI r) (nI (k + 1)) = 0 := by decide +kernel
  have h := ev_falls d N vs g (nI r) (nI b) ok
  rw [n_cl (by omega), n_cl (by omega)] at h
  have e := key r hr (b - 1) (by omega)
  rw [show b - 1 + 1 = b by omega] at e
  exact Ev_mono h (fun v g q => ⟨q.2.1, q.2.2⟩) (fun _ g q => absurd e q.1)
set_option maxRecDepth 100000 in
set_option maxHeartbeats 4000000 in
theorem ev_setting0 (d : Nat) (N : List Nat) (vs : List Value) (g : xH) (k : Nat) (hN : N.length = 18) (hk : k < 3) : Ev xT (d + 2) N_B_setting [.ref 0, .int (nI k)] (hN1 N vs g) (Rt (some (.int (nI (N.getD (3 + k) 0)))) (hN1 N vs g)) NX := by
  have key : ∀ k, k < 3 → settingE (nI k) = 0 := by decide +kernel
  have h := ev_setting d N vs g (nI k) hN
  rw [n_cl (by omega)] at h
  exact Ev_mono h (fun v g q => ⟨q.2.1, q.2.2⟩) (fun _ g q => absurd (key k hk) q.1)
def pcB (N : List Nat) (r : Nat) : Nat → Nat
  | 0 => 0
  | b + 1 => pcB N r b + (if rsnN N r (b + 1) = 0 then 1 else 0)
def pcR (N : List Nat) : Nat → Nat
  | 0 => 0
  | r + 1 => pcR N r + pcB N r 5
theorem pcB_le (N : List Nat) (r : Nat) : ∀ b, pcB N r b ≤ b
  | 0 => Nat.le_refl _
  | b + 1 => by
    have := pcB_le N r b
    rw [pcB]
    split <;> omega
theorem pcR_le (N : List Nat) : ∀ r, pcR N r ≤ 5 * r
  | 0 => Nat.le_refl _
  | r + 1 => by
    have := pcR_le N r
    have := pcB_le N r 5
    rw [pcR]
    omega
theorem grt_le (N : List Nat) (r : Nat) : ∀ b, grtN N r b ≤ b
  | 0 => Nat.le_refl _
  | b + 1 => by
    have := grt_le N r b
    rw [grtN]
    split <;> omega
theorem ptB_pc (N : List Nat) (r : Nat) : ∀ (j b s : Nat), ptB N r j (b + 1) s + pcB N r b = s + pcB N r (b + j)
  | 0, b, s => rfl
  | j + 1, b, s => by
    have h := ptB_pc N r j (b + 1) (if rsnN N r (b + 1) = 0 then s + 1 else s)
    rw [ptB]
    rw [show b + 1 + j = b + (j + 1) by omega, pcB] at h
    by_cases z : rsnN N r (b + 1) = 0
    · rw [if_pos z] at h ⊢
      rw [if_pos z] at h
      omega
    · rw [if_neg z] at h ⊢
      rw [if_neg z] at h
      omega
theorem pc_top {N : List Nat} (h3 : N.getD 3 0 < 4) (r : Nat) : ∀ j, N.getD 3 0 + j ≤ 5 → pcB N r (N.getD 3 0 + j) = pcB N r (N.getD 3 0) ∧ grtN N r (N.getD 3 0 + j) = grtN N r (N.getD 3 0)
  | 0, _ => ⟨rfl, rfl⟩
  | j + 1, hj => by
    obtain ⟨h1, h2⟩ := pc_top h3 r j (by omega)
    have e := rsn_big (N := N) (r := r) (b := N.getD 3 0 + j + 1) (by omega)
    rw [show N.getD 3 0 + (j + 1) = N.getD 3 0 + j + 1 by omega, pcB, grtN, e, h1, h2]
    exact ⟨rfl, rfl⟩
theorem pc_5 {N : List Nat} (h3 : N.getD 3 0 < 4) (r : Nat) : pcB N r 5 = pcB N r (N.getD 3 0) ∧ grtN N r 5 = grtN N r (N.getD 3 0) := by
  have h := pc_top h3 r (5 - N.getD 3 0) (by omega)
  rw [show N.getD 3 0 + (5 - N.getD 3 0) = 5 by omega] at h
  exact h
theorem ptR_pc {N : List Nat} (h3 : N.getD 3 0 < 4) : ∀ (j r s : Nat), ptR N j r s + pcR N r = s + pcR N (r + j)
  | 0, r, s => rfl
  | j + 1, r, s => by
    have h := ptR_pc h3 j (r + 1) (ptB N r (N.getD 3 0) 1 s)
    have h2 := ptB_pc N r (N.getD 3 0) 0 s
    rw [ptR]
    rw [show r + 1 + j = r + (j + 1) by omega, pcR, (pc_5 h3 r).1] at h
    have e : pcB N r 0 = 0 := rfl
    rw [Nat.zero_add, Nat.zero_add, e] at h2
    omega
theorem pt_pc {N : List Nat} (h3 : N.getD 3 0 < 4) : pcR N 5 = ptR N 5 0 0 := by
  have h := ptR_pc h3 5 0 0
  have e : pcR N 0 = 0 := rfl
  rw [Nat.zero_add, Nat.zero_add, e] at h
  omega
/-- falls, why: the three cases -/
theorem fall_cases {N : List Nat} {r b : Nat} (ok : stN N) (hm : shp (N.getD 0 0)) (hr : r < 5) (hb : 1 ≤ b) (hb5 : b ≤ 5) :
    (b ≤ pop (bitsN (N.getD 0 0) r) ∧ ∃ f, f < 16 ∧ fallI (N.getD 0 0) (N.getD 1 0) r b = nI f ∧ (N.getD 3 0 < b → rsnN N r b = 1) ∧ (¬ N.getD 3 0 < b → rsnN N r b = if N.getD 4 0 = 1 ∧ ¬ f = 0 then 3 else 0)) ∨
    (pop (bitsN (N.getD 0 0) r) < b ∧ fallI (N.getD 0 0) (N.getD 1 0) r b = -1 ∧ (N.getD 3 0 < b → rsnN N r b = 1) ∧ (¬ N.getD 3 0 < b → rsnN N r b = 2)) := by
  obtain ⟨hN, h0, h1, h3, h3', h4, h5⟩ := ok
  have hrob := q_rob hm h1 hr hb hb5
  have hp := pop_le (rob_lt (m := N.getD 0 0) (t := N.getD 1 0) (r := r) (b := b) h0)
  by_cases z : (robN (N.getD 0 0) (N.getD 1 0) r b).2 = 0
  · refine Or.inl ⟨hrob.mp z, pop (robN (N.getD 0 0) (N.getD 1 0) r b).1 - pop (settledN (robN (N.getD 0 0) (N.getD 1 0) r b).1), by omega, ?_, fun w => rsn_big w, fun w => ?_⟩
    · unfold fallI
      rw [if_pos z]
    · unfold rsnN
      rw [if_neg w, if_pos z]
      have e : (barB N = true ∧ pop (settledN (robN (N.getD 0 0) (N.getD 1 0) r b).1) < pop (robN (N.getD 0 0) (N.getD 1 0) r b).1) ↔ (N.getD 4 0 = 1 ∧ ¬ pop (robN (N.getD 0 0) (N.getD 1 0) r b).1 - pop (settledN (robN (N.getD 0 0) (N.getD 1 0) r b).1) = 0) := by
        unfold barB
        rw [beq_iff_eq]
        refine and_congr_right fun _ => ?_
        omega
      by_cases y : barB N = true ∧ pop (settledN (robN (N.getD 0 0) (N.getD 1 0) r b).1) < pop (robN (N.getD 0 0) (N.getD 1 0) r b).1
      · rw [if_pos y, if_pos (e.mp y)]
      · rw [if_neg y, if_neg (fun q => y (e.mpr q))]
  · refine Or.inr ⟨?_, ?_, fun w => rsn_big w, fun w => ?_⟩
    · have : ¬ b ≤ pop (bitsN (N.getD 0 0) r) := fun q => z (hrob.mpr q)
      omega
    · unfold fallI
      rw [if_neg z]
    · unfold rsnN
      rw [if_neg w, if_neg z]
theorem win_cases {N : List Nat} (ok : stN N) : (ptR N 5 0 0 = 0 → winI N = nI (if N.getD 5 0 = 1 then N.getD 1 0 else 1 - N.getD 1 0)) ∧ (¬ ptR N 5 0 0 = 0 → winI N = -1) := by
  unfold winI
  refine ⟨fun z => ?_, fun z => ?_⟩
  · rw [if_neg (by omega)]
    split <;> rfl
  · rw [if_pos (by omega)]
theorem bits_le {m r : Nat} : pop (bitsN m r) ≤ 15 := by
  have : ∀ k n, popN k n ≤ k := by
    intro k
    induction k with
    | zero => intro n; exact Nat.le_refl _
    | succ k ih =>
      intro n
      have h1 := ih n
      have h2 : n >>> k &&& 1 ≤ 1 := Nat.and_le_right
      rw [popN]
      omega
  exact this 15 _
set_option maxRecDepth 100000 in
set_option maxHeartbeats 4000000 in
theorem ev_isPlay (q d : Nat) (N V S C : List Nat) (P : List Value) (sv tl : Nat) (has : Bool) (g : xH) (okl : okL q N) (hq9 : q ≤ 1000) (gk : gOk P g) :
    Ev xT (d + 9) N_W_isPlay [.ref 0] (hB N V S C P sv tl has g) (clQ N V S C sv tl has g 0 (some (.int (nI 1)))) NX := by
  refine Ev_intro t_W_isPlay (Nat.le_of_ble_eq_true rfl) ?_
  intro Q X hQ hX K hK
  show K 0 [some (.ref 0), none, none, none, none, none, none, none] [] _ 0 0
  have hq : ∀ P' g', gOk P' g' → (∃ k, g' = g ++ k) → Q (some (.int (nI 1))) (hB N V S C P' sv tl has g') := fun P' g' h1 h2 => hQ _ _ ⟨rfl, rfl, P', g', rfl, h1, h2⟩
  obtain ⟨ok, hm, l1, l2, l3, l4, l5⟩ := okl
  have ok' := ok
  obtain ⟨hN, h0, h1, h3, h3', h4, h5⟩ := ok'
  have hm0 := shp_lt hm
  have loop2 : ∀ (j b r c s ps : Nat) (a6 a7 : Option Value), b + j = 5 → r < 5 → ps ≤ 100 → c + 5 * j ≤ 290 → s + 30 * j ≤ 8900 → (∀ n, xwL n [a6, a7]) → (∀ (y6 y7 : Option Value) (c' s' : Nat), (∀ n, xwL n [y6, y7]) → c' ≤ c + 5 * j → s' ≤ s + 30 * j → K 17 [some (.ref 0), some (.int (nI (ps + pcB N r 5))), some (.int (nI 1)), some (.int (nI r)), some (.int (nI (grtN N r 5))), some (.int (nI 6)), y6, y7] [] (hB N V S C P sv tl has g) c' s') →
      K 2 [some (.ref 0), some (.int (nI (ps + pcB N r b))), some (.int (nI 1)), some (.int (nI r)), some (.int (nI (grtN N r b))), some (.int (nI (b + 1))), a6, a7] [] (hB N V S C P sv tl has g) c s := by
    intro j
    induction j with
    | zero =>
      intro b r c s ps a6 a7 hb hr hps hc hs hw hk
      obtain rfl : b = 5 := by omega
      refine hK 2 _ _ _ _ _ _ _ _ rfl ?_
      dsimp only [k_W_isPlay_2, hN1, hB, wpI, xop, xcall, xli, xlj, xlf, xld, xla, xlg, xst, xst2, xc1, pI, pJ, pF, pD, pR, pA, p1, p0, xpop, xpush, xsm, xhas, xif, xic, xsw, xai, xal, xhi, xhv, xrf, xret, xrtl, xrtf, xrtd, xrta, xrtv, xfit, xnew, cond_true, cond_false, f40, f41, f42, f43, List.length_cons, List.length_nil, Nat.reduceAdd, Nat.reduceSub, Nat.reduceMul, Nat.reduceBEq, List.map_cons, List.map_nil, List.headD_cons, List.getElem?_cons_zero, List.getElem?_cons_succ, List.set_cons_zero, List.set_cons_succ]
      refine br_t (by decide) ?_
      exact hk _ _ c s hw (by omega) (by omega)
    | succ j ih =>
      intro b r c s ps a6 a7 hb hr hps hc hs hw hk
      have pl := pcB_le N r b
      have gl := grt_le N r b
      have wl := rsn_lt N r (b + 1)
      have bl := bits_le (m := N.getD 0 0) (r := r)
      have go : ∀ (x6 x7 : Int32) (c' s' : Nat), c' ≤ c + 5 → s' ≤ s + 30 → K 2 [some (.ref 0), some (.int (nI (ps + pcB N r (b + 1)))), some (.int (nI 1)), some (.int (nI r)), some (.int (nI (grtN N r (b + 1)))), some (.int (nI (b + 1 + 1))), some (.int x6), some (.int x7)] [] (hB N V S C P sv tl has g) c' s' := fun x6 x7 c' s' e1 e2 =>
        ih (b + 1) r c' s' ps _ _ (by omega) hr hps (by omega) (by omega) (fun n => ⟨trivial, trivial, trivial⟩) (fun y6 y7 c'' s'' f0 f1 f2 => hk y6 y7 c'' s'' f0 (by omega) (by omega))
      refine hK 2 _ _ _ _ _ _ _ _ rfl ?_
      dsimp only [k_W_isPlay_2, hN1, hB, wpI, xop, xcall, xli, xlj, xlf, xld, xla, xlg, xst, xst2, xc1, pI, pJ, pF, pD, pR, pA, p1, p0, xpop, xpush, xsm, xhas, xif, xic, xsw, xai, xal, xhi, xhv, xrf, xret, xrtl, xrtf, xrtd, xrta, xrtv, xfit, xnew, cond_true, cond_false, f40, f41, f42, f43, List.length_cons, List.length_nil, Nat.reduceAdd, Nat.reduceSub, Nat.reduceMul, Nat.reduceBEq, List.map_cons, List.map_nil, List.headD_cons, List.getElem?_cons_zero, List.getElem?_cons_succ, List.set_cons_zero, List.set_cons_succ]
      try simp (disch := omega) only [nI_add, n_and, n_or, n_xor, n_i31, nI_leI, nI_ltI, n_e0, n_eq, n_m1e, n_l0, n_g0, n_p0, n_q0, n_cl, n_in, n_sub, n_shr, n_shl, n_div, bI_0, n_01, n_11, bI_or, not_false_eq_true, forall_const, not_true_eq_false, false_imp_iff, true_imp_iff]
      refine br_f (by omega) (br_f (by decide) ⟨by omega, by omega, ?_⟩)
      refine Ev_use (ev_why5 _ N _ _ r (b + 1) ok hr (by omega) (by omega)) ?_
      dsimp only [hN1, hB, wpI, xop, xcall, xli, xlj, xlf, xld, xla, xlg, xst, xst2, xc1, pI, pJ, pF, pD, pR, pA, p1, p0, xpop, xpush, xsm, xhas, xif, xic, xsw, xai, xal, xhi, xhv, xrf, xret, xrtl, xrtf, xrtd, xrta, xrtv, xfit, xnew, cond_true, cond_false, f40, f41, f42, f43, List.length_cons, List.length_nil, Nat.reduceAdd, Nat.reduceSub, Nat.reduceMul, Nat.reduceBEq, List.map_cons, List.map_nil, List.headD_cons, List.getElem?_cons_zero, List.getElem?_cons_succ, List.set_cons_zero, List.set_cons_succ]
      refine ⟨by omega, by omega, ?_⟩
      refine Ev_use (ev_falls5 _ N _ _ r (b + 1) ok hr (by omega) (by omega)) ?_
      dsimp only [hN1, hB, wpI, xop, xcall, xli, xlj, xlf, xld, xla, xlg, xst, xst2, xc1, pI, pJ, pF, pD, pR, pA, p1, p0, xpop, xpush, xsm, xhas, xif, xic, xsw, xai, xal, xhi, xhv, xrf, xret, xrtl, xrtf, xrtd, xrta, xrtv, xfit, xnew, cond_true, cond_false, f40, f41, f42, f43, List.length_cons, List.length_nil, Nat.reduceAdd, Nat.reduceSub, Nat.reduceMul, Nat.reduceBEq, List.map_cons, List.map_nil, List.headD_cons, List.getElem?_cons_zero, List.getElem?_cons_succ, List.set_cons_zero, List.set_cons_succ]
      try simp (disch := omega) only [nI_add, n_and, n_or, n_xor, n_i31, nI_leI, nI_ltI, n_e0, n_eq, n_m1e, n_l0, n_g0, n_p0, n_q0, n_cl, n_in, n_sub, n_shr, n_shl, n_div, bI_0, n_01, n_11, bI_or, not_false_eq_true, forall_const, not_true_eq_false, false_imp_iff, true_imp_iff]
      have tail : ∀ x : Nat, x = grtN N r (b + 1) → K 6 [some (.ref 0), some (.int (nI (ps + pcB N r (b + 1)))), some (.int (nI 1)), some (.int (nI r)), some (.int (nI (grtN N r b))), some (.int (nI (b + 1))), some (.int (nI (rsnN N r (b + 1)))), some (.int (fallI (N.getD 0 0) (N.getD 1 0) r (b + 1)))] [.int (nI x)] (hB N V S C P sv tl has g) (c + 1 + 1) (s + 6 + 6) := by
        rintro x rfl
        refine hK 6 _ _ _ _ _ _ _ _ rfl ?_
        dsimp only [k_W_isPlay_6, hN1, hB, wpI, xop, xcall, xli, xlj, xlf, xld, xla, xlg, xst, xst2, xc1, pI, pJ, pF, pD, pR, pA, p1, p0, xpop, xpush, xsm, xhas, xif, xic, xsw, xai, xal, xhi, xhv, xrf, xret, xrtl, xrtf, xrtd, xrta, xrtv, xfit, xnew, cond_true, cond_false, f40, f41, f42, f43, List.length_cons, List.length_nil, Nat.reduceAdd, Nat.reduceSub, Nat.reduceMul, Nat.reduceBEq, List.map_cons, List.map_nil, List.headD_cons, List.getElem?_cons_zero, List.getElem?_cons_succ, List.set_cons_zero, List.set_cons_succ]
        have t16 : ∀ c' s', c' ≤ c + 5 → s' ≤ s + 30 → K 16 [some (.ref 0), some (.int (nI (ps + pcB N r (b + 1)))), some (.int (nI 1)), some (.int (nI r)), some (.int (nI (grtN N r (b + 1)))), some (.int (nI (b + 1))), some (.int (nI (rsnN N r (b + 1)))), some (.int (fallI (N.getD 0 0) (N.getD 1 0) r (b + 1)))] [.int (nI 1)] (hB N V S C P sv tl has g) c' s' := fun c' s' e1 e2 => by
          refine hK 16 _ _ _ _ _ _ _ _ rfl ?_
          dsimp only [k_W_isPlay_16, hN1, hB, wpI, xop, xcall, xli, xlj, xlf, xld, xla, xlg, xst, xst2, xc1, pI, pJ, pF, pD, pR, pA, p1, p0, xpop, xpush, xsm, xhas, xif, xic, xsw, xai, xal, xhi, xhv, xrf, xret, xrtl, xrtf, xrtd, xrta, xrtv, xfit, xnew, cond_true, cond_false, f40, f41, f42, f43, List.length_cons, List.length_nil, Nat.reduceAdd, Nat.reduceSub, Nat.reduceMul, Nat.reduceBEq, List.map_cons, List.map_nil, List.headD_cons, List.getElem?_cons_zero, List.getElem?_cons_succ, List.set_cons_zero, List.set_cons_succ]
          try simp (disch := omega) only [nI_add, n_and, n_or, n_xor, n_i31, nI_leI, nI_ltI, n_e0, n_eq, n_m1e, n_l0, n_g0, n_p0, n_q0, n_cl, n_in, n_sub, n_shr, n_shl, n_div, bI_0, n_01, n_11, bI_or, not_false_eq_true, forall_const, not_true_eq_false, false_imp_iff, true_imp_iff]
          exact go _ _ c' s' e1 e2
        have t14 : ∀ (w : Int32) c' s', w = nI (rsnN N r (b + 1)) → c' ≤ c + 5 → s' ≤ s + 30 → K 14 [some (.ref 0), some (.int (nI (ps + pcB N r (b + 1)))), some (.int (nI 1)), some (.int (nI r)), some (.int (nI (grtN N r (b + 1)))), some (.int (nI (b + 1))), some (.int (nI (rsnN N r (b + 1)))), some (.int (fallI (N.getD 0 0) (N.getD 1 0) r (b + 1)))] [.int w, .int (nI (rsnN N r (b + 1)))] (hB N V S C P sv tl has g) c' s' := fun w c' s' e e1 e2 => by
          subst e
          refine hK 14 _ _ _ _ _ _ _ _ rfl ?_
          dsimp only [k_W_isPlay_14, hN1, hB, wpI, xop, xcall, xli, xlj, xlf, xld, xla, xlg, xst, xst2, xc1, pI, pJ, pF, pD, pR, pA, p1, p0, xpop, xpush, xsm, xhas, xif, xic, xsw, xai, xal, xhi, xhv, xrf, xret, xrtl, xrtf, xrtd, xrta, xrtv, xfit, xnew, cond_true, cond_false, f40, f41, f42, f43, List.length_cons, List.length_nil, Nat.reduceAdd, Nat.reduceSub, Nat.reduceMul, Nat.reduceBEq, List.map_cons, List.map_nil, List.headD_cons, List.getElem?_cons_zero, List.getElem?_cons_succ, List.set_cons_zero, List.set_cons_succ]
          exact ⟨fun z => absurd rfl z, fun _ => t16 c' s' e1 e2⟩
        rcases fall_cases ok hm hr (show 1 ≤ b + 1 by omega) (show b + 1 ≤ 5 by omega) with ⟨k1, f, f1, k2, k3, k4⟩ | ⟨k1, k2, k3, k4⟩
        · rw [k2] at t14 ⊢
          refine ⟨fun _ => ?_, fun z => absurd (nI_pos' (by omega)) z⟩
          refine hK 7 _ _ _ _ _ _ _ _ rfl ?_
          dsimp only [k_W_isPlay_7, hN1, hB, wpI, xop, xcall, xli, xlj, xlf, xld, xla, xlg, xst, xst2, xc1, pI, pJ, pF, pD, pR, pA, p1, p0, xpop, xpush, xsm, xhas, xif, xic, xsw, xai, xal, xhi, xhv, xrf, xret, xrtl, xrtf, xrtd, xrta, xrtv, xfit, xnew, cond_true, cond_false, f40, f41, f42, f43, List.length_cons, List.length_nil, Nat.reduceAdd, Nat.reduceSub, Nat.reduceMul, Nat.reduceBEq, List.map_cons, List.map_nil, List.headD_cons, List.getElem?_cons_zero, List.getElem?_cons_succ, List.set_cons_zero, List.set_cons_succ]
          refine hK 8 _ _ _ _ _ _ _ _ rfl ?_
          dsimp only [k_W_isPlay_8, hN1, hB, wpI, xop, xcall, xli, xlj, xlf, xld, xla, xlg, xst, xst2, xc1, pI, pJ, pF, pD, pR, pA, p1, p0, xpop, xpush, xsm, xhas, xif, xic, xsw, xai, xal, xhi, xhv, xrf, xret, xrtl, xrtf, xrtd, xrta, xrtv, xfit, xnew, cond_true, cond_false, f40, f41, f42, f43, List.length_cons, List.length_nil, Nat.reduceAdd, Nat.reduceSub, Nat.reduceMul, Nat.reduceBEq, List.map_cons, List.map_nil, List.headD_cons, List.getElem?_cons_zero, List.getElem?_cons_succ, List.set_cons_zero, List.set_cons_succ]
          refine ⟨by omega, by omega, ?_⟩
          refine Ev_use (ev_row0 _ N _ _ r 0 ok hr (by decide)) ?_
          dsimp only [hN1, hB, wpI, xop, xcall, xli, xlj, xlf, xld, xla, xlg, xst, xst2, xc1, pI, pJ, pF, pD, pR, pA, p1, p0, xpop, xpush, xsm, xhas, xif, xic, xsw, xai, xal, xhi, xhv, xrf, xret, xrtl, xrtf, xrtd, xrta, xrtv, xfit, xnew, cond_true, cond_false, f40, f41, f42, f43, List.length_cons, List.length_nil, Nat.reduceAdd, Nat.reduceSub, Nat.reduceMul, Nat.reduceBEq, List.map_cons, List.map_nil, List.headD_cons, List.getElem?_cons_zero, List.getElem?_cons_succ, List.set_cons_zero, List.set_cons_succ]
          rw [row_0]
          try simp (disch := omega) only [nI_add, n_and, n_or, n_xor, n_i31, nI_leI, nI_ltI, n_e0, n_eq, n_m1e, n_l0, n_g0, n_p0, n_q0, n_cl, n_in, n_sub, n_shr, n_shl, n_div, bI_0, n_01, n_11, bI_or, not_false_eq_true, forall_const, not_true_eq_false, false_imp_iff, true_imp_iff]
          refine br_t (by omega) ?_
          refine hK 9 _ _ _ _ _ _ _ _ rfl ?_
          dsimp only [k_W_isPlay_9, hN1, hB, wpI, xop, xcall, xli, xlj, xlf, xld, xla, xlg, xst, xst2, xc1, pI, pJ, pF, pD, pR, pA, p1, p0, xpop, xpush, xsm, xhas, xif, xic, xsw, xai, xal, xhi, xhv, xrf, xret, xrtl, xrtf, xrtd, xrta, xrtv, xfit, xnew, cond_true, cond_false, f40, f41, f42, f43, List.length_cons, List.length_nil, Nat.reduceAdd, Nat.reduceSub, Nat.reduceMul, Nat.reduceBEq, List.map_cons, List.map_nil, List.headD_cons, List.getElem?_cons_zero, List.getElem?_cons_succ, List.set_cons_zero, List.set_cons_succ]
          refine hK 10 _ _ _ _ _ _ _ _ rfl ?_
          dsimp only [k_W_isPlay_10, hN1, hB, wpI, xop, xcall, xli, xlj, xlf, xld, xla, xlg, xst, xst2, xc1, pI, pJ, pF, pD, pR, pA, p1, p0, xpop, xpush, xsm, xhas, xif, xic, xsw, xai, xal, xhi, xhv, xrf, xret, xrtl, xrtf, xrtd, xrta, xrtv, xfit, xnew, cond_true, cond_false, f40, f41, f42, f43, List.length_cons, List.length_nil, Nat.reduceAdd, Nat.reduceSub, Nat.reduceMul, Nat.reduceBEq, List.map_cons, List.map_nil, List.headD_cons, List.getElem?_cons_zero, List.getElem?_cons_succ, List.set_cons_zero, List.set_cons_succ]
          refine ⟨fun z => absurd rfl z, fun _ => ⟨by omega, by omega, ?_⟩⟩
          refine Ev_use (ev_setting0 _ N _ _ 0 hN (by decide)) ?_
          dsimp only [hN1, hB, wpI, xop, xcall, xli, xlj, xlf, xld, xla, xlg, xst, xst2, xc1, pI, pJ, pF, pD, pR, pA, p1, p0, xpop, xpush, xsm, xhas, xif, xic, xsw, xai, xal, xhi, xhv, xrf, xret, xrtl, xrtf, xrtd, xrta, xrtv, xfit, xnew, cond_true, cond_false, f40, f41, f42, f43, List.length_cons, List.length_nil, Nat.reduceAdd, Nat.reduceSub, Nat.reduceMul, Nat.reduceBEq, List.map_cons, List.map_nil, List.headD_cons, List.getElem?_cons_zero, List.getElem?_cons_succ, List.set_cons_zero, List.set_cons_succ]
          try simp (disch := omega) only [nI_add, n_and, n_or, n_xor, n_i31, nI_leI, nI_ltI, n_e0, n_eq, n_m1e, n_l0, n_g0, n_p0, n_q0, n_cl, n_in, n_sub, n_shr, n_shl, n_div, bI_0, n_01, n_11, bI_or, not_false_eq_true, forall_const, not_true_eq_false, false_imp_iff, true_imp_iff]
          refine ⟨fun z => ?_, fun z => ?_⟩
          · refine hK 11 _ _ _ _ _ _ _ _ rfl ?_
            dsimp only [k_W_isPlay_11, hN1, hB, wpI, xop, xcall, xli, xlj, xlf, xld, xla, xlg, xst, xst2, xc1, pI, pJ, pF, pD, pR, pA, p1, p0, xpop, xpush, xsm, xhas, xif, xic, xsw, xai, xal, xhi, xhv, xrf, xret, xrtl, xrtf, xrtd, xrta, xrtv, xfit, xnew, cond_true, cond_false, f40, f41, f42, f43, List.length_cons, List.length_nil, Nat.reduceAdd, Nat.reduceSub, Nat.reduceMul, Nat.reduceBEq, List.map_cons, List.map_nil, List.headD_cons, List.getElem?_cons_zero, List.getElem?_cons_succ, List.set_cons_zero, List.set_cons_succ]
            refine ⟨fun _ => ?_, fun z => absurd (nI_pos' (by omega)) z⟩
            refine hK 12 _ _ _ _ _ _ _ _ rfl ?_
            dsimp only [k_W_isPlay_12, hN1, hB, wpI, xop, xcall, xli, xlj, xlf, xld, xla, xlg, xst, xst2, xc1, pI, pJ, pF, pD, pR, pA, p1, p0, xpop, xpush, xsm, xhas, xif, xic, xsw, xai, xal, xhi, xhv, xrf, xret, xrtl, xrtf, xrtd, xrta, xrtv, xfit, xnew, cond_true, cond_false, f40, f41, f42, f43, List.length_cons, List.length_nil, Nat.reduceAdd, Nat.reduceSub, Nat.reduceMul, Nat.reduceBEq, List.map_cons, List.map_nil, List.headD_cons, List.getElem?_cons_zero, List.getElem?_cons_succ, List.set_cons_zero, List.set_cons_succ]
            refine ⟨by omega, by omega, ?_⟩
            refine Ev_use (ev_setting0 _ N _ _ 1 hN (by decide)) ?_
            dsimp only [hN1, hB, wpI, xop, xcall, xli, xlj, xlf, xld, xla, xlg, xst, xst2, xc1, pI, pJ, pF, pD, pR, pA, p1, p0, xpop, xpush, xsm, xhas, xif, xic, xsw, xai, xal, xhi, xhv, xrf, xret, xrtl, xrtf, xrtd, xrta, xrtv, xfit, xnew, cond_true, cond_false, f40, f41, f42, f43, List.length_cons, List.length_nil, Nat.reduceAdd, Nat.reduceSub, Nat.reduceMul, Nat.reduceBEq, List.map_cons, List.map_nil, List.headD_cons, List.getElem?_cons_zero, List.getElem?_cons_succ, List.set_cons_zero, List.set_cons_succ]
            try simp (disch := omega) only [nI_add, n_and, n_or, n_xor, n_i31, nI_leI, nI_ltI, n_e0, n_eq, n_m1e, n_l0, n_g0, n_p0, n_q0, n_cl, n_in, n_sub, n_shr, n_shl, n_div, bI_0, n_01, n_11, bI_or, not_false_eq_true, forall_const, not_true_eq_false, false_imp_iff, true_imp_iff]
            have k4 := k4 (by omega)
            refine ⟨fun w => ?_, fun w => ?_⟩
            · refine hK 13 _ _ _ _ _ _ _ _ rfl ?_
              dsimp only [k_W_isPlay_13, hN1, hB, wpI, xop, xcall, xli, xlj, xlf, xld, xla, xlg, xst, xst2, xc1, pI, pJ, pF, pD, pR, pA, p1, p0, xpop, xpush, xsm, xhas, xif, xic, xsw, xai, xal, xhi, xhv, xrf, xret, xrtl, xrtf, xrtd, xrta, xrtv, xfit, xnew, cond_true, cond_false, f40, f41, f42, f43, List.length_cons, List.length_nil, Nat.reduceAdd, Nat.reduceSub, Nat.reduceMul, Nat.reduceBEq, List.map_cons, List.map_nil, List.headD_cons, List.getElem?_cons_zero, List.getElem?_cons_succ, List.set_cons_zero, List.set_cons_succ]
              exact t14 _ _ _ (by rw [k4, if_neg (fun q => w q.1)]) (by omega) (by omega)
            · refine ⟨fun y => ?_, fun y => ?_⟩
              · refine hK 13 _ _ _ _ _ _ _ _ rfl ?_
                dsimp only [k_W_isPlay_13, hN1, hB, wpI, xop, xcall, xli, xlj, xlf, xld, xla, xlg, xst, xst2, xc1, pI, pJ, pF, pD, pR, pA, p1, p0, xpop, xpush, xsm, xhas, xif, xic, xsw, xai, xal, xhi, xhv, xrf, xret, xrtl, xrtf, xrtd, xrta, xrtv, xfit, xnew, cond_true, cond_false, f40, f41, f42, f43, List.length_cons, List.length_nil, Nat.reduceAdd, Nat.reduceSub, Nat.reduceMul, Nat.reduceBEq, List.map_cons, List.map_nil, List.headD_cons, List.getElem?_cons_zero, List.getElem?_cons_succ, List.set_cons_zero, List.set_cons_succ]
                exact t14 _ _ _ (by rw [k4, if_neg (fun q => q.2 y)]) (by omega) (by omega)
              · exact t14 _ _ _ (by rw [k4, if_pos ⟨w, y⟩]) (by omega) (by omega)
          · exact t14 _ _ _ (by rw [k3 (by omega)]) (by omega) (by omega)
        · rw [k2] at t14 ⊢
          refine ⟨fun z => absurd z (by decide), fun _ => ?_⟩
          refine hK 8 _ _ _ _ _ _ _ _ rfl ?_
          dsimp only [k_W_isPlay_8, hN1, hB, wpI, xop, xcall, xli, xlj, xlf, xld, xla, xlg, xst, xst2, xc1, pI, pJ, pF, pD, pR, pA, p1, p0, xpop, xpush, xsm, xhas, xif, xic, xsw, xai, xal, xhi, xhv, xrf, xret, xrtl, xrtf, xrtd, xrta, xrtv, xfit, xnew, cond_true, cond_false, f40, f41, f42, f43, List.length_cons, List.length_nil, Nat.reduceAdd, Nat.reduceSub, Nat.reduceMul, Nat.reduceBEq, List.map_cons, List.map_nil, List.headD_cons, List.getElem?_cons_zero, List.getElem?_cons_succ, List.set_cons_zero, List.set_cons_succ]
          refine ⟨by omega, by omega, ?_⟩
          refine Ev_use (ev_row0 _ N _ _ r 0 ok hr (by decide)) ?_
          dsimp only [hN1, hB, wpI, xop, xcall, xli, xlj, xlf, xld, xla, xlg, xst, xst2, xc1, pI, pJ, pF, pD, pR, pA, p1, p0, xpop, xpush, xsm, xhas, xif, xic, xsw, xai, xal, xhi, xhv, xrf, xret, xrtl, xrtf, xrtd, xrta, xrtv, xfit, xnew, cond_true, cond_false, f40, f41, f42, f43, List.length_cons, List.length_nil, Nat.reduceAdd, Nat.reduceSub, Nat.reduceMul, Nat.reduceBEq, List.map_cons, List.map_nil, List.headD_cons, List.getElem?_cons_zero, List.getElem?_cons_succ, List.set_cons_zero, List.set_cons_succ]
          rw [row_0]
          try simp (disch := omega) only [nI_add, n_and, n_or, n_xor, n_i31, nI_leI, nI_ltI, n_e0, n_eq, n_m1e, n_l0, n_g0, n_p0, n_q0, n_cl, n_in, n_sub, n_shr, n_shl, n_div, bI_0, n_01, n_11, bI_or, not_false_eq_true, forall_const, not_true_eq_false, false_imp_iff, true_imp_iff]
          refine br_f (by omega) ?_
          refine hK 10 _ _ _ _ _ _ _ _ rfl ?_
          dsimp only [k_W_isPlay_10, hN1, hB, wpI, xop, xcall, xli, xlj, xlf, xld, xla, xlg, xst, xst2, xc1, pI, pJ, pF, pD, pR, pA, p1, p0, xpop, xpush, xsm, xhas, xif, xic, xsw, xai, xal, xhi, xhv, xrf, xret, xrtl, xrtf, xrtd, xrta, xrtv, xfit, xnew, cond_true, cond_false, f40, f41, f42, f43, List.length_cons, List.length_nil, Nat.reduceAdd, Nat.reduceSub, Nat.reduceMul, Nat.reduceBEq, List.map_cons, List.map_nil, List.headD_cons, List.getElem?_cons_zero, List.getElem?_cons_succ, List.set_cons_zero, List.set_cons_succ]
          refine ⟨fun z => absurd rfl z, fun _ => ⟨by omega, by omega, ?_⟩⟩
          refine Ev_use (ev_setting0 _ N _ _ 0 hN (by decide)) ?_
          dsimp only [hN1, hB, wpI, xop, xcall, xli, xlj, xlf, xld, xla, xlg, xst, xst2, xc1, pI, pJ, pF, pD, pR, pA, p1, p0, xpop, xpush, xsm, xhas, xif, xic, xsw, xai, xal, xhi, xhv, xrf, xret, xrtl, xrtf, xrtd, xrta, xrtv, xfit, xnew, cond_true, cond_false, f40, f41, f42, f43, List.length_cons, List.length_nil, Nat.reduceAdd, Nat.reduceSub, Nat.reduceMul, Nat.reduceBEq, List.map_cons, List.map_nil, List.headD_cons, List.getElem?_cons_zero, List.getElem?_cons_succ, List.set_cons_zero, List.set_cons_succ]
          try simp (disch := omega) only [nI_add, n_and, n_or, n_xor, n_i31, nI_leI, nI_ltI, n_e0, n_eq, n_m1e, n_l0, n_g0, n_p0, n_q0, n_cl, n_in, n_sub, n_shr, n_shl, n_div, bI_0, n_01, n_11, bI_or, not_false_eq_true, forall_const, not_true_eq_false, false_imp_iff, true_imp_iff]
          refine ⟨fun z => ?_, fun z => ?_⟩
          · refine hK 11 _ _ _ _ _ _ _ _ rfl ?_
            dsimp only [k_W_isPlay_11, hN1, hB, wpI, xop, xcall, xli, xlj, xlf, xld, xla, xlg, xst, xst2, xc1, pI, pJ, pF, pD, pR, pA, p1, p0, xpop, xpush, xsm, xhas, xif, xic, xsw, xai, xal, xhi, xhv, xrf, xret, xrtl, xrtf, xrtd, xrta, xrtv, xfit, xnew, cond_true, cond_false, f40, f41, f42, f43, List.length_cons, List.length_nil, Nat.reduceAdd, Nat.reduceSub, Nat.reduceMul, Nat.reduceBEq, List.map_cons, List.map_nil, List.headD_cons, List.getElem?_cons_zero, List.getElem?_cons_succ, List.set_cons_zero, List.set_cons_succ]
            refine ⟨fun z => absurd z (by decide), fun _ => ?_⟩
            exact t14 _ _ _ (by rw [k4 (by omega)]) (by omega) (by omega)
          · exact t14 _ _ _ (by rw [k3 (by omega)]) (by omega) (by omega)
      by_cases z : rsnN N r (b + 1) = 0
      · have e1 : pcB N r (b + 1) = pcB N r b + 1 := by rw [pcB, if_pos z]
        have e2 : grtN N r (b + 1) = b + 1 := by rw [grtN, if_pos z]
        refine ⟨fun w => absurd z w, fun _ => ?_⟩
        refine hK 4 _ _ _ _ _ _ _ _ rfl ?_
        dsimp only [k_W_isPlay_4, hN1, hB, wpI, xop, xcall, xli, xlj, xlf, xld, xla, xlg, xst, xst2, xc1, pI, pJ, pF, pD, pR, pA, p1, p0, xpop, xpush, xsm, xhas, xif, xic, xsw, xai, xal, xhi, xhv, xrf, xret, xrtl, xrtf, xrtd, xrta, xrtv, xfit, xnew, cond_true, cond_false, f40, f41, f42, f43, List.length_cons, List.length_nil, Nat.reduceAdd, Nat.reduceSub, Nat.reduceMul, Nat.reduceBEq, List.map_cons, List.map_nil, List.headD_cons, List.getElem?_cons_zero, List.getElem?_cons_succ, List.set_cons_zero, List.set_cons_succ]
        try simp (disch := omega) only [nI_add, n_and, n_or, n_xor, n_i31, nI_leI, nI_ltI, n_e0, n_eq, n_m1e, n_l0, n_g0, n_p0, n_q0, n_cl, n_in, n_sub, n_shr, n_shl, n_div, bI_0, n_01, n_11, bI_or, not_false_eq_true, forall_const, not_true_eq_false, false_imp_iff, true_imp_iff]
        refine ⟨fun w => absurd z w, fun _ => ?_⟩
        have k := tail (b + 1) e2.symm
        rw [e1, ← Nat.add_assoc] at k
        exact k
      · have e1 : pcB N r (b + 1) = pcB N r b + 0 := by rw [pcB, if_neg z]
        have e2 : grtN N r (b + 1) = grtN N r b := by rw [grtN, if_neg z]
        refine ⟨fun _ => ?_, fun w => absurd w z⟩
        refine hK 3 _ _ _ _ _ _ _ _ rfl ?_
        dsimp only [k_W_isPlay_3, hN1, hB, wpI, xop, xcall, xli, xlj, xlf, xld, xla, xlg, xst, xst2, xc1, pI, pJ, pF, pD, pR, pA, p1, p0, xpop, xpush, xsm, xhas, xif, xic, xsw, xai, xal, xhi, xhv, xrf, xret, xrtl, xrtf, xrtd, xrta, xrtv, xfit, xnew, cond_true, cond_false, f40, f41, f42, f43, List.length_cons, List.length_nil, Nat.reduceAdd, Nat.reduceSub, Nat.reduceMul, Nat.reduceBEq, List.map_cons, List.map_nil, List.headD_cons, List.getElem?_cons_zero, List.getElem?_cons_succ, List.set_cons_zero, List.set_cons_succ]
        refine hK 4 _ _ _ _ _ _ _ _ rfl ?_
        dsimp only [k_W_isPlay_4, hN1, hB, wpI, xop, xcall, xli, xlj, xlf, xld, xla, xlg, xst, xst2, xc1, pI, pJ, pF, pD, pR, pA, p1, p0, xpop, xpush, xsm, xhas, xif, xic, xsw, xai, xal, xhi, xhv, xrf, xret, xrtl, xrtf, xrtd, xrta, xrtv, xfit, xnew, cond_true, cond_false, f40, f41, f42, f43, List.length_cons, List.length_nil, Nat.reduceAdd, Nat.reduceSub, Nat.reduceMul, Nat.reduceBEq, List.map_cons, List.map_nil, List.headD_cons, List.getElem?_cons_zero, List.getElem?_cons_succ, List.set_cons_zero, List.set_cons_succ]
        try simp (disch := omega) only [nI_add, n_and, n_or, n_xor, n_i31, nI_leI, nI_ltI, n_e0, n_eq, n_m1e, n_l0, n_g0, n_p0, n_q0, n_cl, n_in, n_sub, n_shr, n_shl, n_div, bI_0, n_01, n_11, bI_or, not_false_eq_true, forall_const, not_true_eq_false, false_imp_iff, true_imp_iff]
        refine ⟨fun _ => ?_, fun w => absurd w z⟩
        refine hK 5 _ _ _ _ _ _ _ _ rfl ?_
        dsimp only [k_W_isPlay_5, hN1, hB, wpI, xop, xcall, xli, xlj, xlf, xld, xla, xlg, xst, xst2, xc1, pI, pJ, pF, pD, pR, pA, p1, p0, xpop, xpush, xsm, xhas, xif, xic, xsw, xai, xal, xhi, xhv, xrf, xret, xrtl, xrtf, xrtd, xrta, xrtv, xfit, xnew, cond_true, cond_false, f40, f41, f42, f43, List.length_cons, List.length_nil, Nat.reduceAdd, Nat.reduceSub, Nat.reduceMul, Nat.reduceBEq, List.map_cons, List.map_nil, List.headD_cons, List.getElem?_cons_zero, List.getElem?_cons_succ, List.set_cons_zero, List.set_cons_succ]
        have k := tail (grtN N r b) e2.symm
        rw [e1, ← Nat.add_assoc] at k
        exact k
  have hp5 := pt_pc h3'
  have loop1 : ∀ (j r c s : Nat) (a4 a5 a6 a7 : Option Value), r + j = 5 → c + 26 * j ≤ 130 → s + 156 * j ≤ 780 → (∀ n, xwL n [a4, a5, a6, a7]) → (∀ (y4 y5 y6 y7 : Option Value) (c' s' : Nat), (∀ n, xwL n [y4, y5, y6, y7]) → c' ≤ 130 → s' ≤ 780 → K 20 [some (.ref 0), some (.int (nI (ptR N 5 0 0))), some (.int (nI 1)), some (.int (nI 5)), y4, y5, y6, y7] [] (hB N V S C P sv tl has g) c' s') →
      K 1 [some (.ref 0), some (.int (nI (pcR N r))), some (.int (nI 1)), some (.int (nI r)), a4, a5, a6, a7] [] (hB N V S C P sv tl has g) c s := by
    intro j
    induction j with
    | zero =>
      intro r c s a4 a5 a6 a7 hr hc hs hw hk
      obtain rfl : r = 5 := by omega
      rw [hp5]
      refine hK 1 _ _ _ _ _ _ _ _ rfl ?_
      dsimp only [k_W_isPlay_1, hN1, hB, wpI, xop, xcall, xli, xlj, xlf, xld, xla, xlg, xst, xst2, xc1, pI, pJ, pF, pD, pR, pA, p1, p0, xpop, xpush, xsm, xhas, xif, xic, xsw, xai, xal, xhi, xhv, xrf, xret, xrtl, xrtf, xrtd, xrta, xrtv, xfit, xnew, cond_true, cond_false, f40, f41, f42, f43, List.length_cons, List.length_nil, Nat.reduceAdd, Nat.reduceSub, Nat.reduceMul, Nat.reduceBEq, List.map_cons, List.map_nil, List.headD_cons, List.getElem?_cons_zero, List.getElem?_cons_succ, List.set_cons_zero, List.set_cons_succ]
      refine br_t (by decide) ?_
      exact hk _ _ _ _ c s hw (by omega) (by omega)
    | succ j ih =>
      intro r c s a4 a5 a6 a7 hr hc hs hw hk
      have pl := pcR_le N r
      have gl := grt_le N r 5
      refine hK 1 _ _ _ _ _ _ _ _ rfl ?_
      dsimp only [k_W_isPlay_1, hN1, hB, wpI, xop, xcall, xli, xlj, xlf, xld, xla, xlg, xst, xst2, xc1, pI, pJ, pF, pD, pR, pA, p1, p0, xpop, xpush, xsm, xhas, xif, xic, xsw, xai, xal, xhi, xhv, xrf, xret, xrtl, xrtf, xrtd, xrta, xrtv, xfit, xnew, cond_true, cond_false, f40, f41, f42, f43, List.length_cons, List.length_nil, Nat.reduceAdd, Nat.reduceSub, Nat.reduceMul, Nat.reduceBEq, List.map_cons, List.map_nil, List.headD_cons, List.getElem?_cons_zero, List.getElem?_cons_succ, List.set_cons_zero, List.set_cons_succ]
      try simp (disch := omega) only [nI_add, n_and, n_or, n_xor, n_i31, nI_leI, nI_ltI, n_e0, n_eq, n_m1e, n_l0, n_g0, n_p0, n_q0, n_cl, n_in, n_sub, n_shr, n_shl, n_div, bI_0, n_01, n_11, bI_or, not_false_eq_true, forall_const, not_true_eq_false, false_imp_iff, true_imp_iff]
      refine br_f (by omega) (br_f (by decide) ?_)
      have k2 := loop2 5 0 r c s (pcR N r) a6 a7 rfl (by omega) (by omega) (by omega) (by omega) (fun n => xwL_tl (xwL_tl (hw n))) (fun y6 y7 c' s' f0 f1 f2 => by
        refine hK 17 _ _ _ _ _ _ _ _ rfl ?_
        dsimp only [k_W_isPlay_17, hN1, hB, wpI, xop, xcall, xli, xlj, xlf, xld, xla, xlg, xst, xst2, xc1, pI, pJ, pF, pD, pR, pA, p1, p0, xpop, xpush, xsm, xhas, xif, xic, xsw, xai, xal, xhi, xhv, xrf, xret, xrtl, xrtf, xrtd, xrta, xrtv, xfit, xnew, cond_true, cond_false, f40, f41, f42, f43, List.length_cons, List.length_nil, Nat.reduceAdd, Nat.reduceSub, Nat.reduceMul, Nat.reduceBEq, List.map_cons, List.map_nil, List.headD_cons, List.getElem?_cons_zero, List.getElem?_cons_succ, List.set_cons_zero, List.set_cons_succ]
        refine br_f (by decide) ⟨by omega, by omega, ?_⟩
        refine Ev_use (ev_row0 _ N _ _ r 3 ok (by omega) (by decide)) ?_
        dsimp only [hN1, hB, wpI, xop, xcall, xli, xlj, xlf, xld, xla, xlg, xst, xst2, xc1, pI, pJ, pF, pD, pR, pA, p1, p0, xpop, xpush, xsm, xhas, xif, xic, xsw, xai, xal, xhi, xhv, xrf, xret, xrtl, xrtf, xrtd, xrta, xrtv, xfit, xnew, cond_true, cond_false, f40, f41, f42, f43, List.length_cons, List.length_nil, Nat.reduceAdd, Nat.reduceSub, Nat.reduceMul, Nat.reduceBEq, List.map_cons, List.map_nil, List.headD_cons, List.getElem?_cons_zero, List.getElem?_cons_succ, List.set_cons_zero, List.set_cons_succ]
        rw [row_3, (pc_5 h3' r).2]
        refine ⟨fun z => absurd rfl z, fun _ => ?_⟩
        refine hK 19 _ _ _ _ _ _ _ _ rfl ?_
        dsimp only [k_W_isPlay_19, hN1, hB, wpI, xop, xcall, xli, xlj, xlf, xld, xla, xlg, xst, xst2, xc1, pI, pJ, pF, pD, pR, pA, p1, p0, xpop, xpush, xsm, xhas, xif, xic, xsw, xai, xal, xhi, xhv, xrf, xret, xrtl, xrtf, xrtd, xrta, xrtv, xfit, xnew, cond_true, cond_false, f40, f41, f42, f43, List.length_cons, List.length_nil, Nat.reduceAdd, Nat.reduceSub, Nat.reduceMul, Nat.reduceBEq, List.map_cons, List.map_nil, List.headD_cons, List.getElem?_cons_zero, List.getElem?_cons_succ, List.set_cons_zero, List.set_cons_succ]
        try simp (disch := omega) only [nI_add, n_and, n_or, n_xor, n_i31, nI_leI, nI_ltI, n_e0, n_eq, n_m1e, n_l0, n_g0, n_p0, n_q0, n_cl, n_in, n_sub, n_shr, n_shl, n_div, bI_0, n_01, n_11, bI_or, not_false_eq_true, forall_const, not_true_eq_false, false_imp_iff, true_imp_iff]
        exact ih (r + 1) _ _ _ _ _ _ (by omega) (by omega) (by omega) (fun n => ⟨trivial, trivial, f0 n⟩) hk)
      exact k2
  refine hK 0 _ _ _ _ _ _ _ _ rfl ?_
  dsimp only [k_W_isPlay_0, hN1, hB, wpI, xop, xcall, xli, xlj, xlf, xld, xla, xlg, xst, xst2, xc1, pI, pJ, pF, pD, pR, pA, p1, p0, xpop, xpush, xsm, xhas, xif, xic, xsw, xai, xal, xhi, xhv, xrf, xret, xrtl, xrtf, xrtd, xrta, xrtv, xfit, xnew, cond_true, cond_false, f40, f41, f42, f43, List.length_cons, List.length_nil, Nat.reduceAdd, Nat.reduceSub, Nat.reduceMul, Nat.reduceBEq, List.map_cons, List.map_nil, List.headD_cons, List.getElem?_cons_zero, List.getElem?_cons_succ, List.set_cons_zero, List.set_cons_succ]
  refine loop1 5 0 0 0 none none none none rfl (by decide) (by decide) (fun n => trivial) ?_
  intro a4 a5 a6 a7 c s hw hc hs
  have pl := ptR_le N h3' 5 0 0
  obtain ⟨p1, p2, p3, p4, p5, p6, p7⟩ := gp_all ok hm
  have pm := pop_le hm0
  obtain ⟨w1, w2⟩ := win_cases ok
  have w5 : ∀ n, xwL n [a5, a6, a7] := fun n => xwL_tl (hw n)
  have w6 : ∀ n, xwL n [a6, a7] := fun n => xwL_tl (w5 n)
  refine hK 20 _ _ _ _ _ _ _ _ rfl ?_
  dsimp only [k_W_isPlay_20, hN1, hB, wpI, xop, xcall, xli, xlj, xlf, xld, xla, xlg, xst, xst2, xc1, pI, pJ, pF, pD, pR, pA, p1, p0, xpop, xpush, xsm, xhas, xif, xic, xsw, xai, xal, xhi, xhv, xrf, xret, xrtl, xrtf, xrtd, xrta, xrtv, xfit, xnew, cond_true, cond_false, f40, f41, f42, f43, List.length_cons, List.length_nil, Nat.reduceAdd, Nat.reduceSub, Nat.reduceMul, Nat.reduceBEq, List.map_cons, List.map_nil, List.headD_cons, List.getElem?_cons_zero, List.getElem?_cons_succ, List.set_cons_zero, List.set_cons_succ]
  refine ⟨by omega, by omega, ?_⟩
  refine Ev_use (ev_count0 _ N V S C P sv tl has g 2 ok (by decide)) ?_
  dsimp only [hN1, hB, wpI, xop, xcall, xli, xlj, xlf, xld, xla, xlg, xst, xst2, xc1, pI, pJ, pF, pD, pR, pA, p1, p0, xpop, xpush, xsm, xhas, xif, xic, xsw, xai, xal, xhi, xhv, xrf, xret, xrtl, xrtf, xrtd, xrta, xrtv, xfit, xnew, cond_true, cond_false, f40, f41, f42, f43, List.length_cons, List.length_nil, Nat.reduceAdd, Nat.reduceSub, Nat.reduceMul, Nat.reduceBEq, List.map_cons, List.map_nil, List.headD_cons, List.getElem?_cons_zero, List.getElem?_cons_succ, List.set_cons_zero, List.set_cons_succ]
  rw [cnt_2]
  refine ⟨rfl, by omega, by omega, ⟨Or.inl (Nat.succ_pos _), trivial, trivial, trivial, hw _⟩, trivial, ?_⟩
  refine Ev_of (ev_best _ N V S C P sv tl has g ok gk) ?_
  rintro v h' ⟨-, rfl, P1, g1, rfl, gk1, e1, rfl⟩
  dsimp only [hN1, hB, wpI, xop, xcall, xli, xlj, xlf, xld, xla, xlg, xst, xst2, xc1, pI, pJ, pF, pD, pR, pA, p1, p0, xpop, xpush, xsm, xhas, xif, xic, xsw, xai, xal, xhi, xhv, xrf, xret, xrtl, xrtf, xrtd, xrta, xrtv, xfit, xnew, cond_true, cond_false, f40, f41, f42, f43, List.length_cons, List.length_nil, Nat.reduceAdd, Nat.reduceSub, Nat.reduceMul, Nat.reduceBEq, List.map_cons, List.map_nil, List.headD_cons, List.getElem?_cons_zero, List.getElem?_cons_succ, List.set_cons_zero, List.set_cons_succ]
  have WL : ∀ (n : Nat) (x y z w b : Int32), xwL (n + 1) [some (.ref 0), some (.int x), some (.int y), some (.int z), some (.int w), some (.int b), a6, a7] := fun n x y z w b => ⟨Or.inl (Nat.succ_pos _), trivial, trivial, trivial, trivial, trivial, w6 _⟩
  have t36 : ∀ (P2 : List Value) (g2 : xH) (x y z w b : Int32) (c s : Nat), gOk P2 g2 → (∃ k, g2 = g ++ k) → c ≤ 300 → s ≤ 9000 → K 36 [some (.ref 0), some (.int x), some (.int y), some (.int z), some (.int w), some (.int b), a6, a7] [] (hB N V S C P2 sv tl has g2) c s := by
    intro P2 g2 x y z w b c s gk2 e2 hc hs
    refine hK 36 _ _ _ _ _ _ _ _ rfl ?_
    dsimp only [k_W_isPlay_36, hN1, hB, wpI, xop, xcall, xli, xlj, xlf, xld, xla, xlg, xst, xst2, xc1, pI, pJ, pF, pD, pR, pA, p1, p0, xpop, xpush, xsm, xhas, xif, xic, xsw, xai, xal, xhi, xhv, xrf, xret, xrtl, xrtf, xrtd, xrta, xrtv, xfit, xnew, cond_true, cond_false, f40, f41, f42, f43, List.length_cons, List.length_nil, Nat.reduceAdd, Nat.reduceSub, Nat.reduceMul, Nat.reduceBEq, List.map_cons, List.map_nil, List.headD_cons, List.getElem?_cons_zero, List.getElem?_cons_succ, List.set_cons_zero, List.set_cons_succ]
    refine hK 38 _ _ _ _ _ _ _ _ rfl ?_
    dsimp only [k_W_isPlay_38, hN1, hB, wpI, xop, xcall, xli, xlj, xlf, xld, xla, xlg, xst, xst2, xc1, pI, pJ, pF, pD, pR, pA, p1, p0, xpop, xpush, xsm, xhas, xif, xic, xsw, xai, xal, xhi, xhv, xrf, xret, xrtl, xrtf, xrtd, xrta, xrtv, xfit, xnew, cond_true, cond_false, f40, f41, f42, f43, List.length_cons, List.length_nil, Nat.reduceAdd, Nat.reduceSub, Nat.reduceMul, Nat.reduceBEq, List.map_cons, List.map_nil, List.headD_cons, List.getElem?_cons_zero, List.getElem?_cons_succ, List.set_cons_zero, List.set_cons_succ]
    exact ⟨Or.inr rfl, hc, hs, hq P2 g2 gk2 e2⟩
  have t30 : ∀ (P2 : List Value) (g2 : xH) (x : Int32) (c s : Nat), gOk P2 g2 → (∃ k, g2 = g ++ k) → c ≤ 200 → s ≤ 7000 → (ptR N 5 0 0 = 0 → x = nI 1) → (¬ ptR N 5 0 0 = 0 → x = nI 0) →
      K 30 [some (.ref 0), some (.int (nI (ptR N 5 0 0))), some (.int (nI 1)), some (.int (nI (N.getD 1 0))), some (.int (oI (beR N 5 0))), some (.int x), a6, a7] [.int (nI 1)] (hB N V S C P2 sv tl has g2) c s := by
    intro P2 g2 x c s gk2 e2 hc hs x1 x0
    by_cases z : ptR N 5 0 0 = 0
    · obtain rfl := x1 z
      obtain ⟨q1, q2⟩ := p5 z
      have w1 := w1 z
      rw [q1]
      refine hK 30 _ _ _ _ _ _ _ _ rfl ?_
      dsimp only [k_W_isPlay_30, hN1, hB, wpI, xop, xcall, xli, xlj, xlf, xld, xla, xlg, xst, xst2, xc1, pI, pJ, pF, pD, pR, pA, p1, p0, xpop, xpush, xsm, xhas, xif, xic, xsw, xai, xal, xhi, xhv, xrf, xret, xrtl, xrtf, xrtd, xrta, xrtv, xfit, xnew, cond_true, cond_false, f40, f41, f42, f43, List.length_cons, List.length_nil, Nat.reduceAdd, Nat.reduceSub, Nat.reduceMul, Nat.reduceBEq, List.map_cons, List.map_nil, List.headD_cons, List.getElem?_cons_zero, List.getElem?_cons_succ, List.set_cons_zero, List.set_cons_succ]
      refine br_f (by decide) (br_f (by decide) ?_)
      refine ⟨fun y => absurd rfl y, fun _ => ⟨rfl, by omega, by omega, WL _ _ _ _ _ _, trivial, ?_⟩⟩
      refine Ev_of (ev_wins0 _ N V S C P2 sv tl has g2 _ ok gk2 h1) ?_
      rintro v h' ⟨-, rfl, P3, g3, rfl, gk3, e3, rfl⟩
      dsimp only [hN1, hB, wpI, xop, xcall, xli, xlj, xlf, xld, xla, xlg, xst, xst2, xc1, pI, pJ, pF, pD, pR, pA, p1, p0, xpop, xpush, xsm, xhas, xif, xic, xsw, xai, xal, xhi, xhv, xrf, xret, xrtl, xrtf, xrtd, xrta, xrtv, xfit, xnew, cond_true, cond_false, f40, f41, f42, f43, List.length_cons, List.length_nil, Nat.reduceAdd, Nat.reduceSub, Nat.reduceMul, Nat.reduceBEq, List.map_cons, List.map_nil, List.headD_cons, List.getElem?_cons_zero, List.getElem?_cons_succ, List.set_cons_zero, List.set_cons_succ]
      have e4 : ∃ k, g2 ++ e3 = g ++ k := by
        obtain ⟨k, rfl⟩ := e2
        exact ⟨k ++ e3, List.append_assoc _ _ _⟩
      refine ⟨by omega, by omega, ?_⟩
      refine Ev_use (ev_setting0 _ N _ _ 2 hN (by decide)) ?_
      dsimp only [hN1, hB, wpI, xop, xcall, xli, xlj, xlf, xld, xla, xlg, xst, xst2, xc1, pI, pJ, pF, pD, pR, pA, p1, p0, xpop, xpush, xsm, xhas, xif, xic, xsw, xai, xal, xhi, xhv, xrf, xret, xrtl, xrtf, xrtd, xrta, xrtv, xfit, xnew, cond_true, cond_false, f40, f41, f42, f43, List.length_cons, List.length_nil, Nat.reduceAdd, Nat.reduceSub, Nat.reduceMul, Nat.reduceBEq, List.map_cons, List.map_nil, List.headD_cons, List.getElem?_cons_zero, List.getElem?_cons_succ, List.set_cons_zero, List.set_cons_succ]
      refine ⟨fun y => absurd ?_ y, fun _ => ⟨by omega, by omega, ?_⟩⟩
      · rw [q2]
        have : N.getD 5 0 = 0 ∨ N.getD 5 0 = 1 := by omega
        rcases this with e | e <;> (rw [e]; rfl)
      refine Ev_use (ev_count0 _ N V S C P3 sv tl has (g2 ++ e3) 8 ok (by decide)) ?_
      dsimp only [hN1, hB, wpI, xop, xcall, xli, xlj, xlf, xld, xla, xlg, xst, xst2, xc1, pI, pJ, pF, pD, pR, pA, p1, p0, xpop, xpush, xsm, xhas, xif, xic, xsw, xai, xal, xhi, xhv, xrf, xret, xrtl, xrtf, xrtd, xrta, xrtv, xfit, xnew, cond_true, cond_false, f40, f41, f42, f43, List.length_cons, List.length_nil, Nat.reduceAdd, Nat.reduceSub, Nat.reduceMul, Nat.reduceBEq, List.map_cons, List.map_nil, List.headD_cons, List.getElem?_cons_zero, List.getElem?_cons_succ, List.set_cons_zero, List.set_cons_succ]
      rw [cnt_8, w1]
      refine ⟨by omega, by omega, ?_⟩
      refine Ev_use (ev_setting0 _ N _ _ 2 hN (by decide)) ?_
      dsimp only [hN1, hB, wpI, xop, xcall, xli, xlj, xlf, xld, xla, xlg, xst, xst2, xc1, pI, pJ, pF, pD, pR, pA, p1, p0, xpop, xpush, xsm, xhas, xif, xic, xsw, xai, xal, xhi, xhv, xrf, xret, xrtl, xrtf, xrtd, xrta, xrtv, xfit, xnew, cond_true, cond_false, f40, f41, f42, f43, List.length_cons, List.length_nil, Nat.reduceAdd, Nat.reduceSub, Nat.reduceMul, Nat.reduceBEq, List.map_cons, List.map_nil, List.headD_cons, List.getElem?_cons_zero, List.getElem?_cons_succ, List.set_cons_zero, List.set_cons_succ]
      try simp (disch := omega) only [nI_add, n_and, n_or, n_xor, n_i31, nI_leI, nI_ltI, n_e0, n_eq, n_m1e, n_l0, n_g0, n_p0, n_q0, n_cl, n_in, n_sub, n_shr, n_shl, n_div, bI_0, n_01, n_11, bI_or, not_false_eq_true, forall_const, not_true_eq_false, false_imp_iff, true_imp_iff]
      refine ⟨fun y => ?_, fun y => ?_⟩
      · rw [if_neg y]
        refine hK 31 _ _ _ _ _ _ _ _ rfl ?_
        dsimp only [k_W_isPlay_31, hN1, hB, wpI, xop, xcall, xli, xlj, xlf, xld, xla, xlg, xst, xst2, xc1, pI, pJ, pF, pD, pR, pA, p1, p0, xpop, xpush, xsm, xhas, xif, xic, xsw, xai, xal, xhi, xhv, xrf, xret, xrtl, xrtf, xrtd, xrta, xrtv, xfit, xnew, cond_true, cond_false, f40, f41, f42, f43, List.length_cons, List.length_nil, Nat.reduceAdd, Nat.reduceSub, Nat.reduceMul, Nat.reduceBEq, List.map_cons, List.map_nil, List.headD_cons, List.getElem?_cons_zero, List.getElem?_cons_succ, List.set_cons_zero, List.set_cons_succ]
        try simp (disch := omega) only [nI_add, n_and, n_or, n_xor, n_i31, nI_leI, nI_ltI, n_e0, n_eq, n_m1e, n_l0, n_g0, n_p0, n_q0, n_cl, n_in, n_sub, n_shr, n_shl, n_div, bI_0, n_01, n_11, bI_or, not_false_eq_true, forall_const, not_true_eq_false, false_imp_iff, true_imp_iff]
        refine hK 32 _ _ _ _ _ _ _ _ rfl ?_
        dsimp only [k_W_isPlay_32, hN1, hB, wpI, xop, xcall, xli, xlj, xlf, xld, xla, xlg, xst, xst2, xc1, pI, pJ, pF, pD, pR, pA, p1, p0, xpop, xpush, xsm, xhas, xif, xic, xsw, xai, xal, xhi, xhv, xrf, xret, xrtl, xrtf, xrtd, xrta, xrtv, xfit, xnew, cond_true, cond_false, f40, f41, f42, f43, List.length_cons, List.length_nil, Nat.reduceAdd, Nat.reduceSub, Nat.reduceMul, Nat.reduceBEq, List.map_cons, List.map_nil, List.headD_cons, List.getElem?_cons_zero, List.getElem?_cons_succ, List.set_cons_zero, List.set_cons_succ]
        exact ⟨fun y => absurd rfl y, fun _ => t36 _ _ _ _ _ _ _ _ _ gk3 e4 (by omega) (by omega)⟩
      · rw [if_pos y]
        refine hK 32 _ _ _ _ _ _ _ _ rfl ?_
        dsimp only [k_W_isPlay_32, hN1, hB, wpI, xop, xcall, xli, xlj, xlf, xld, xla, xlg, xst, xst2, xc1, pI, pJ, pF, pD, pR, pA, p1, p0, xpop, xpush, xsm, xhas, xif, xic, xsw, xai, xal, xhi, xhv, xrf, xret, xrtl, xrtf, xrtd, xrta, xrtv, xfit, xnew, cond_true, cond_false, f40, f41, f42, f43, List.length_cons, List.length_nil, Nat.reduceAdd, Nat.reduceSub, Nat.reduceMul, Nat.reduceBEq, List.map_cons, List.map_nil, List.headD_cons, List.getElem?_cons_zero, List.getElem?_cons_succ, List.set_cons_zero, List.set_cons_succ]
        exact ⟨fun y => absurd rfl y, fun _ => t36 _ _ _ _ _ _ _ _ _ gk3 e4 (by omega) (by omega)⟩
    · obtain rfl := x0 z
      have q2 := p6 z
      refine hK 30 _ _ _ _ _ _ _ _ rfl ?_
      dsimp only [k_W_isPlay_30, hN1, hB, wpI, xop, xcall, xli, xlj, xlf, xld, xla, xlg, xst, xst2, xc1, pI, pJ, pF, pD, pR, pA, p1, p0, xpop, xpush, xsm, xhas, xif, xic, xsw, xai, xal, xhi, xhv, xrf, xret, xrtl, xrtf, xrtd, xrta, xrtv, xfit, xnew, cond_true, cond_false, f40, f41, f42, f43, List.length_cons, List.length_nil, Nat.reduceAdd, Nat.reduceSub, Nat.reduceMul, Nat.reduceBEq, List.map_cons, List.map_nil, List.headD_cons, List.getElem?_cons_zero, List.getElem?_cons_succ, List.set_cons_zero, List.set_cons_succ]
      refine br_f (by decide) (br_t rfl ?_)
      refine hK 33 _ _ _ _ _ _ _ _ rfl ?_
      dsimp only [k_W_isPlay_33, hN1, hB, wpI, xop, xcall, xli, xlj, xlf, xld, xla, xlg, xst, xst2, xc1, pI, pJ, pF, pD, pR, pA, p1, p0, xpop, xpush, xsm, xhas, xif, xic, xsw, xai, xal, xhi, xhv, xrf, xret, xrtl, xrtf, xrtd, xrta, xrtv, xfit, xnew, cond_true, cond_false, f40, f41, f42, f43, List.length_cons, List.length_nil, Nat.reduceAdd, Nat.reduceSub, Nat.reduceMul, Nat.reduceBEq, List.map_cons, List.map_nil, List.headD_cons, List.getElem?_cons_zero, List.getElem?_cons_succ, List.set_cons_zero, List.set_cons_succ]
      refine ⟨rfl, by omega, by omega, WL _ _ _ _ _ _, trivial, ?_⟩
      refine Ev_of (ev_wins0 _ N V S C P2 sv tl has g2 _ ok gk2 h1) ?_
      rintro v h' ⟨-, rfl, P3, g3, rfl, gk3, e3, rfl⟩
      dsimp only [hN1, hB, wpI, xop, xcall, xli, xlj, xlf, xld, xla, xlg, xst, xst2, xc1, pI, pJ, pF, pD, pR, pA, p1, p0, xpop, xpush, xsm, xhas, xif, xic, xsw, xai, xal, xhi, xhv, xrf, xret, xrtl, xrtf, xrtd, xrta, xrtv, xfit, xnew, cond_true, cond_false, f40, f41, f42, f43, List.length_cons, List.length_nil, Nat.reduceAdd, Nat.reduceSub, Nat.reduceMul, Nat.reduceBEq, List.map_cons, List.map_nil, List.headD_cons, List.getElem?_cons_zero, List.getElem?_cons_succ, List.set_cons_zero, List.set_cons_succ]
      have e4 : ∃ k, g2 ++ e3 = g ++ k := by
        obtain ⟨k, rfl⟩ := e2
        exact ⟨k ++ e3, List.append_assoc _ _ _⟩
      cases hb : beR N 5 0 with
      | none =>
        rw [hb] at q2
        rw [q2]
        refine ⟨fun _ => ?_, fun y => absurd (show (-1 : Int32) < 0 by decide) y⟩
        refine hK 34 _ _ _ _ _ _ _ _ rfl ?_
        dsimp only [k_W_isPlay_34, hN1, hB, wpI, xop, xcall, xli, xlj, xlf, xld, xla, xlg, xst, xst2, xc1, pI, pJ, pF, pD, pR, pA, p1, p0, xpop, xpush, xsm, xhas, xif, xic, xsw, xai, xal, xhi, xhv, xrf, xret, xrtl, xrtf, xrtd, xrta, xrtv, xfit, xnew, cond_true, cond_false, f40, f41, f42, f43, List.length_cons, List.length_nil, Nat.reduceAdd, Nat.reduceSub, Nat.reduceMul, Nat.reduceBEq, List.map_cons, List.map_nil, List.headD_cons, List.getElem?_cons_zero, List.getElem?_cons_succ, List.set_cons_zero, List.set_cons_succ]
        refine hK 35 _ _ _ _ _ _ _ _ rfl ?_
        dsimp only [k_W_isPlay_35, hN1, hB, wpI, xop, xcall, xli, xlj, xlf, xld, xla, xlg, xst, xst2, xc1, pI, pJ, pF, pD, pR, pA, p1, p0, xpop, xpush, xsm, xhas, xif, xic, xsw, xai, xal, xhi, xhv, xrf, xret, xrtl, xrtf, xrtd, xrta, xrtv, xfit, xnew, cond_true, cond_false, f40, f41, f42, f43, List.length_cons, List.length_nil, Nat.reduceAdd, Nat.reduceSub, Nat.reduceMul, Nat.reduceBEq, List.map_cons, List.map_nil, List.headD_cons, List.getElem?_cons_zero, List.getElem?_cons_succ, List.set_cons_zero, List.set_cons_succ]
        refine ⟨fun y => absurd rfl y, fun _ => ⟨fun _ => ?_, fun y => absurd (show (-1 : Int32) < 0 by decide) y⟩⟩
        exact t36 _ _ _ _ _ _ _ _ _ gk3 e4 (by omega) (by omega)
      | some v =>
        obtain ⟨r, b, v1, v2, v3, v4, v5, v6⟩ := p7 v hb
        rw [hb] at q2
        rw [q2]
        have ev : oI (some v) = nI v := rfl
        rw [ev]
        refine ⟨fun y => absurd y (nI_pos (by omega)), fun _ => ?_⟩
        refine hK 35 _ _ _ _ _ _ _ _ rfl ?_
        dsimp only [k_W_isPlay_35, hN1, hB, wpI, xop, xcall, xli, xlj, xlf, xld, xla, xlg, xst, xst2, xc1, pI, pJ, pF, pD, pR, pA, p1, p0, xpop, xpush, xsm, xhas, xif, xic, xsw, xai, xal, xhi, xhv, xrf, xret, xrtl, xrtf, xrtd, xrta, xrtv, xfit, xnew, cond_true, cond_false, f40, f41, f42, f43, List.length_cons, List.length_nil, Nat.reduceAdd, Nat.reduceSub, Nat.reduceMul, Nat.reduceBEq, List.map_cons, List.map_nil, List.headD_cons, List.getElem?_cons_zero, List.getElem?_cons_succ, List.set_cons_zero, List.set_cons_succ]
        refine ⟨fun y => absurd rfl y, fun _ => ⟨fun y => absurd y (nI_pos (by omega)), fun _ => ?_⟩⟩
        have d1 : nI v / nI 10 = nI r := by rw [n_div (by omega) (by decide) (by decide)]; congr 1; omega
        have d2 : nI v - nI r * nI 10 = nI b := by rw [pk_mul, n_sub (by omega)]; congr 1; omega
        rw [d1, d2]
        refine ⟨by decide, by decide, by omega, by omega, ?_⟩
        refine Ev_use (ev_why5 _ N _ _ r b ok v1 v2 (by omega)) ?_
        dsimp only [hN1, hB, wpI, xop, xcall, xli, xlj, xlf, xld, xla, xlg, xst, xst2, xc1, pI, pJ, pF, pD, pR, pA, p1, p0, xpop, xpush, xsm, xhas, xif, xic, xsw, xai, xal, xhi, xhv, xrf, xret, xrtl, xrtf, xrtd, xrta, xrtv, xfit, xnew, cond_true, cond_false, f40, f41, f42, f43, List.length_cons, List.length_nil, Nat.reduceAdd, Nat.reduceSub, Nat.reduceMul, Nat.reduceBEq, List.map_cons, List.map_nil, List.headD_cons, List.getElem?_cons_zero, List.getElem?_cons_succ, List.set_cons_zero, List.set_cons_succ]
        rw [v5]
        refine ⟨fun y => absurd rfl y, fun _ => t36 _ _ _ _ _ _ _ _ _ gk3 e4 (by omega) (by omega)⟩
  have t22 : ∀ (P2 : List Value) (g2 : xH) (x : Int32) (c s : Nat), gOk P2 g2 → (∃ k, g2 = g ++ k) → c ≤ 140 → s ≤ 1600 → (ptR N 5 0 0 = 0 → x = nI 1) → (¬ ptR N 5 0 0 = 0 → x = nI 0) →
      K 22 [some (.ref 0), some (.int (nI (ptR N 5 0 0))), some (.int (nI 1)), some (.int (nI (N.getD 1 0))), some (.int (oI (beR N 5 0))), a5, a6, a7] [.int x] (hB N V S C P2 sv tl has g2) c s := by
    intro P2 g2 x c s gk2 e2 hc hs x1 x0
    refine hK 22 _ _ _ _ _ _ _ _ rfl ?_
    dsimp only [k_W_isPlay_22, hN1, hB, wpI, xop, xcall, xli, xlj, xlf, xld, xla, xlg, xst, xst2, xc1, pI, pJ, pF, pD, pR, pA, p1, p0, xpop, xpush, xsm, xhas, xif, xic, xsw, xai, xal, xhi, xhv, xrf, xret, xrtl, xrtf, xrtd, xrta, xrtv, xfit, xnew, cond_true, cond_false, f40, f41, f42, f43, List.length_cons, List.length_nil, Nat.reduceAdd, Nat.reduceSub, Nat.reduceMul, Nat.reduceBEq, List.map_cons, List.map_nil, List.headD_cons, List.getElem?_cons_zero, List.getElem?_cons_succ, List.set_cons_zero, List.set_cons_succ]
    refine br_f (by decide) ⟨by omega, by omega, ?_⟩
    refine Ev_use (ev_count0 _ N V S C P2 sv tl has g2 7 ok (by decide)) ?_
    dsimp only [hN1, hB, wpI, xop, xcall, xli, xlj, xlf, xld, xla, xlg, xst, xst2, xc1, pI, pJ, pF, pD, pR, pA, p1, p0, xpop, xpush, xsm, xhas, xif, xic, xsw, xai, xal, xhi, xhv, xrf, xret, xrtl, xrtf, xrtd, xrta, xrtv, xfit, xnew, cond_true, cond_false, f40, f41, f42, f43, List.length_cons, List.length_nil, Nat.reduceAdd, Nat.reduceSub, Nat.reduceMul, Nat.reduceBEq, List.map_cons, List.map_nil, List.headD_cons, List.getElem?_cons_zero, List.getElem?_cons_succ, List.set_cons_zero, List.set_cons_succ]
    rw [cnt_7]
    refine ⟨fun y => absurd rfl y, fun _ => ⟨by omega, by omega, ?_⟩⟩
    refine Ev_use (ev_count0 _ N V S C P2 sv tl has g2 8 ok (by decide)) ?_
    dsimp only [hN1, hB, wpI, xop, xcall, xli, xlj, xlf, xld, xla, xlg, xst, xst2, xc1, pI, pJ, pF, pD, pR, pA, p1, p0, xpop, xpush, xsm, xhas, xif, xic, xsw, xai, xal, xhi, xhv, xrf, xret, xrtl, xrtf, xrtd, xrta, xrtv, xfit, xnew, cond_true, cond_false, f40, f41, f42, f43, List.length_cons, List.length_nil, Nat.reduceAdd, Nat.reduceSub, Nat.reduceMul, Nat.reduceBEq, List.map_cons, List.map_nil, List.headD_cons, List.getElem?_cons_zero, List.getElem?_cons_succ, List.set_cons_zero, List.set_cons_succ]
    rw [cnt_8]
    have t24 : K 24 [some (.ref 0), some (.int (nI (ptR N 5 0 0))), some (.int (nI 1)), some (.int (nI (N.getD 1 0))), some (.int (oI (beR N 5 0))), some (.int x), a6, a7] [.int x] (hB N V S C P2 sv tl has g2) (c + 1 + 1) (s + 6 + 6) := by
      refine hK 24 _ _ _ _ _ _ _ _ rfl ?_
      dsimp only [k_W_isPlay_24, hN1, hB, wpI, xop, xcall, xli, xlj, xlf, xld, xla, xlg, xst, xst2, xc1, pI, pJ, pF, pD, pR, pA, p1, p0, xpop, xpush, xsm, xhas, xif, xic, xsw, xai, xal, xhi, xhv, xrf, xret, xrtl, xrtf, xrtd, xrta, xrtv, xfit, xnew, cond_true, cond_false, f40, f41, f42, f43, List.length_cons, List.length_nil, Nat.reduceAdd, Nat.reduceSub, Nat.reduceMul, Nat.reduceBEq, List.map_cons, List.map_nil, List.headD_cons, List.getElem?_cons_zero, List.getElem?_cons_succ, List.set_cons_zero, List.set_cons_succ]
      refine ⟨fun y => absurd rfl y, fun _ => ⟨rfl, by omega, by omega, WL _ _ _ _ _ _, trivial, ?_⟩⟩
      refine Ev_of (ev_length0 _ N V S C P2 sv tl has g2 0 ok gk2 (by decide)) ?_
      rintro v h' ⟨-, rfl, P3, g3, rfl, gk3, e3, rfl⟩
      rw [if_pos rfl]
      dsimp only [hN1, hB, wpI, xop, xcall, xli, xlj, xlf, xld, xla, xlg, xst, xst2, xc1, pI, pJ, pF, pD, pR, pA, p1, p0, xpop, xpush, xsm, xhas, xif, xic, xsw, xai, xal, xhi, xhv, xrf, xret, xrtl, xrtf, xrtd, xrta, xrtv, xfit, xnew, cond_true, cond_false, f40, f41, f42, f43, List.length_cons, List.length_nil, Nat.reduceAdd, Nat.reduceSub, Nat.reduceMul, Nat.reduceBEq, List.map_cons, List.map_nil, List.headD_cons, List.getElem?_cons_zero, List.getElem?_cons_succ, List.set_cons_zero, List.set_cons_succ]
      have e4 : ∃ k, g2 ++ e3 = g ++ k := by
        obtain ⟨k, rfl⟩ := e2
        exact ⟨k ++ e3, List.append_assoc _ _ _⟩
      have t26 : K 26 [some (.ref 0), some (.int (nI (ptR N 5 0 0))), some (.int (nI 1)), some (.int (nI (N.getD 1 0))), some (.int (oI (beR N 5 0))), some (.int x), a6, a7] [.int x] (hB N V S C P3 sv tl has (g2 ++ e3)) (c + 1 + 1 + 4) (s + 6 + 6 + 799) := by
        refine hK 26 _ _ _ _ _ _ _ _ rfl ?_
        dsimp only [k_W_isPlay_26, hN1, hB, wpI, xop, xcall, xli, xlj, xlf, xld, xla, xlg, xst, xst2, xc1, pI, pJ, pF, pD, pR, pA, p1, p0, xpop, xpush, xsm, xhas, xif, xic, xsw, xai, xal, xhi, xhv, xrf, xret, xrtl, xrtf, xrtd, xrta, xrtv, xfit, xnew, cond_true, cond_false, f40, f41, f42, f43, List.length_cons, List.length_nil, Nat.reduceAdd, Nat.reduceSub, Nat.reduceMul, Nat.reduceBEq, List.map_cons, List.map_nil, List.headD_cons, List.getElem?_cons_zero, List.getElem?_cons_succ, List.set_cons_zero, List.set_cons_succ]
        refine ⟨fun y => absurd rfl y, fun _ => ⟨rfl, by omega, by omega, WL _ _ _ _ _ _, trivial, ?_⟩⟩
        refine Ev_of (ev_length0 _ N V S C P3 sv tl has (g2 ++ e3) 1 ok gk3 (by decide)) ?_
        rintro v h' ⟨-, rfl, P4, g4, rfl, gk4, e5, rfl⟩
        rw [if_neg (by decide)]
        dsimp only [hN1, hB, wpI, xop, xcall, xli, xlj, xlf, xld, xla, xlg, xst, xst2, xc1, pI, pJ, pF, pD, pR, pA, p1, p0, xpop, xpush, xsm, xhas, xif, xic, xsw, xai, xal, xhi, xhv, xrf, xret, xrtl, xrtf, xrtd, xrta, xrtv, xfit, xnew, cond_true, cond_false, f40, f41, f42, f43, List.length_cons, List.length_nil, Nat.reduceAdd, Nat.reduceSub, Nat.reduceMul, Nat.reduceBEq, List.map_cons, List.map_nil, List.headD_cons, List.getElem?_cons_zero, List.getElem?_cons_succ, List.set_cons_zero, List.set_cons_succ]
        have e6 : ∃ k, g2 ++ e3 ++ e5 = g ++ k := by
          obtain ⟨k, hk⟩ := e4
          exact ⟨k ++ e5, by rw [hk, List.append_assoc]⟩
        have t28 : K 28 [some (.ref 0), some (.int (nI (ptR N 5 0 0))), some (.int (nI 1)), some (.int (nI (N.getD 1 0))), some (.int (oI (beR N 5 0))), some (.int x), a6, a7] [.int x] (hB N V S C P4 sv tl has (g2 ++ e3 ++ e5)) (c + 1 + 1 + 4 + 4) (s + 6 + 6 + 799 + 799) := by
          refine hK 28 _ _ _ _ _ _ _ _ rfl ?_
          dsimp only [k_W_isPlay_28, hN1, hB, wpI, xop, xcall, xli, xlj, xlf, xld, xla, xlg, xst, xst2, xc1, pI, pJ, pF, pD, pR, pA, p1, p0, xpop, xpush, xsm, xhas, xif, xic, xsw, xai, xal, xhi, xhv, xrf, xret, xrtl, xrtf, xrtd, xrta, xrtv, xfit, xnew, cond_true, cond_false, f40, f41, f42, f43, List.length_cons, List.length_nil, Nat.reduceAdd, Nat.reduceSub, Nat.reduceMul, Nat.reduceBEq, List.map_cons, List.map_nil, List.headD_cons, List.getElem?_cons_zero, List.getElem?_cons_succ, List.set_cons_zero, List.set_cons_succ]
          refine ⟨fun y => absurd rfl y, fun _ => ⟨rfl, by omega, by omega, WL _ _ _ _ _ _, trivial, ?_⟩⟩
          refine Ev_of (ev_length0 _ N V S C P4 sv tl has (g2 ++ e3 ++ e5) 1 ok gk4 (by decide)) ?_
          rintro v h' ⟨-, rfl, P5, g5, rfl, gk5, e7, rfl⟩
          rw [if_neg (by decide)]
          dsimp only [hN1, hB, wpI, xop, xcall, xli, xlj, xlf, xld, xla, xlg, xst, xst2, xc1, pI, pJ, pF, pD, pR, pA, p1, p0, xpop, xpush, xsm, xhas, xif, xic, xsw, xai, xal, xhi, xhv, xrf, xret, xrtl, xrtf, xrtd, xrta, xrtv, xfit, xnew, cond_true, cond_false, f40, f41, f42, f43, List.length_cons, List.length_nil, Nat.reduceAdd, Nat.reduceSub, Nat.reduceMul, Nat.reduceBEq, List.map_cons, List.map_nil, List.headD_cons, List.getElem?_cons_zero, List.getElem?_cons_succ, List.set_cons_zero, List.set_cons_succ]
          refine ⟨rfl, by omega, by omega, WL _ _ _ _ _ _, ⟨trivial, trivial⟩, ?_⟩
          refine Ev_of (ev_length0 _ N V S C P5 sv tl has _ 0 ok gk5 (by decide)) ?_
          rintro v h' ⟨-, rfl, P6, g6, rfl, gk6, e8, rfl⟩
          rw [if_pos rfl]
          dsimp only [hN1, hB, wpI, xop, xcall, xli, xlj, xlf, xld, xla, xlg, xst, xst2, xc1, pI, pJ, pF, pD, pR, pA, p1, p0, xpop, xpush, xsm, xhas, xif, xic, xsw, xai, xal, xhi, xhv, xrf, xret, xrtl, xrtf, xrtd, xrta, xrtv, xfit, xnew, cond_true, cond_false, f40, f41, f42, f43, List.length_cons, List.length_nil, Nat.reduceAdd, Nat.reduceSub, Nat.reduceMul, Nat.reduceBEq, List.map_cons, List.map_nil, List.headD_cons, List.getElem?_cons_zero, List.getElem?_cons_succ, List.set_cons_zero, List.set_cons_succ]
          try simp (disch := omega) only [nI_add, n_and, n_or, n_xor, n_i31, nI_leI, nI_ltI, n_e0, n_eq, n_m1e, n_l0, n_g0, n_p0, n_q0, n_cl, n_in, n_sub, n_shr, n_shl, n_div, bI_0, n_01, n_11, bI_or, not_false_eq_true, forall_const, not_true_eq_false, false_imp_iff, true_imp_iff]
          refine br_f (by omega) ⟨by first | rfl | trivial, by omega, by omega, WL _ _ _ _ _ _, trivial, ?_⟩
          refine Ev_of (ev_length0 _ N V S C P6 sv tl has _ 0 ok gk6 (by decide)) ?_
          rintro v h' ⟨-, rfl, P7, g7, rfl, gk7, e9, rfl⟩
          rw [if_pos rfl]
          dsimp only [hN1, hB, wpI, xop, xcall, xli, xlj, xlf, xld, xla, xlg, xst, xst2, xc1, pI, pJ, pF, pD, pR, pA, p1, p0, xpop, xpush, xsm, xhas, xif, xic, xsw, xai, xal, xhi, xhv, xrf, xret, xrtl, xrtf, xrtd, xrta, xrtv, xfit, xnew, cond_true, cond_false, f40, f41, f42, f43, List.length_cons, List.length_nil, Nat.reduceAdd, Nat.reduceSub, Nat.reduceMul, Nat.reduceBEq, List.map_cons, List.map_nil, List.headD_cons, List.getElem?_cons_zero, List.getElem?_cons_succ, List.set_cons_zero, List.set_cons_succ]
          refine ⟨by omega, by omega, ?_⟩
          refine Ev_use (ev_count0 _ N V S C P7 sv tl has _ 1 ok (by decide)) ?_
          dsimp only [hN1, hB, wpI, xop, xcall, xli, xlj, xlf, xld, xla, xlg, xst, xst2, xc1, pI, pJ, pF, pD, pR, pA, p1, p0, xpop, xpush, xsm, xhas, xif, xic, xsw, xai, xal, xhi, xhv, xrf, xret, xrtl, xrtf, xrtd, xrta, xrtv, xfit, xnew, cond_true, cond_false, f40, f41, f42, f43, List.length_cons, List.length_nil, Nat.reduceAdd, Nat.reduceSub, Nat.reduceMul, Nat.reduceBEq, List.map_cons, List.map_nil, List.headD_cons, List.getElem?_cons_zero, List.getElem?_cons_succ, List.set_cons_zero, List.set_cons_succ]
          rw [cnt_1]
          try simp (disch := omega) only [nI_add, n_and, n_or, n_xor, n_i31, nI_leI, nI_ltI, n_e0, n_eq, n_m1e, n_l0, n_g0, n_p0, n_q0, n_cl, n_in, n_sub, n_shr, n_shl, n_div, bI_0, n_01, n_11, bI_or, not_false_eq_true, forall_const, not_true_eq_false, false_imp_iff, true_imp_iff]
          refine br_f (by omega) ?_
          refine t30 _ _ _ _ _ gk7 ?_ (by omega) (by omega) x1 x0
          obtain ⟨k, hk⟩ := e6
          exact ⟨k ++ e7 ++ e8 ++ e9, by rw [hk]; simp only [List.append_assoc]⟩
        by_cases z : ptR N 5 0 0 = 0
        · rw [p2.mpr z]
          rw [x1 z] at t28 ⊢
          exact ⟨fun y => absurd rfl y, fun _ => t28⟩
        · refine ⟨fun _ => ?_, fun y => absurd (p2.mp ((n_e0 (by omega)).mp y)) z⟩
          rw [x0 z] at t28 ⊢
          refine hK 27 _ _ _ _ _ _ _ _ rfl ?_
          dsimp only [k_W_isPlay_27, hN1, hB, wpI, xop, xcall, xli, xlj, xlf, xld, xla, xlg, xst, xst2, xc1, pI, pJ, pF, pD, pR, pA, p1, p0, xpop, xpush, xsm, xhas, xif, xic, xsw, xai, xal, xhi, xhv, xrf, xret, xrtl, xrtf, xrtd, xrta, xrtv, xfit, xnew, cond_true, cond_false, f40, f41, f42, f43, List.length_cons, List.length_nil, Nat.reduceAdd, Nat.reduceSub, Nat.reduceMul, Nat.reduceBEq, List.map_cons, List.map_nil, List.headD_cons, List.getElem?_cons_zero, List.getElem?_cons_succ, List.set_cons_zero, List.set_cons_succ]
          exact t28
      by_cases z : ptR N 5 0 0 = 0
      · rw [p1.mpr z]
        rw [x1 z] at t26 ⊢
        exact ⟨fun y => absurd rfl y, fun _ => t26⟩
      · refine ⟨fun _ => ?_, fun y => absurd (p1.mp ((n_e0 (by omega)).mp y)) z⟩
        rw [x0 z] at t26 ⊢
        refine hK 25 _ _ _ _ _ _ _ _ rfl ?_
        dsimp only [k_W_isPlay_25, hN1, hB, wpI, xop, xcall, xli, xlj, xlf, xld, xla, xlg, xst, xst2, xc1, pI, pJ, pF, pD, pR, pA, p1, p0, xpop, xpush, xsm, xhas, xif, xic, xsw, xai, xal, xhi, xhv, xrf, xret, xrtl, xrtf, xrtd, xrta, xrtv, xfit, xnew, cond_true, cond_false, f40, f41, f42, f43, List.length_cons, List.length_nil, Nat.reduceAdd, Nat.reduceSub, Nat.reduceMul, Nat.reduceBEq, List.map_cons, List.map_nil, List.headD_cons, List.getElem?_cons_zero, List.getElem?_cons_succ, List.set_cons_zero, List.set_cons_succ]
        exact t26
    by_cases z : ptR N 5 0 0 = 0
    · rw [w1 z]
      rw [x1 z] at t24 ⊢
      refine ⟨fun y => absurd y (nI_pos (by split <;> omega)), fun _ => t24⟩
    · rw [w2 z]
      rw [x0 z] at t24 ⊢
      refine ⟨fun _ => ?_, fun y => absurd (show (-1 : Int32) < 0 by decide) y⟩
      refine hK 23 _ _ _ _ _ _ _ _ rfl ?_
      dsimp only [k_W_isPlay_23, hN1, hB, wpI, xop, xcall, xli, xlj, xlf, xld, xla, xlg, xst, xst2, xc1, pI, pJ, pF, pD, pR, pA, p1, p0, xpop, xpush, xsm, xhas, xif, xic, xsw, xai, xal, xhi, xhv, xrf, xret, xrtl, xrtf, xrtd, xrta, xrtv, xfit, xnew, cond_true, cond_false, f40, f41, f42, f43, List.length_cons, List.length_nil, Nat.reduceAdd, Nat.reduceSub, Nat.reduceMul, Nat.reduceBEq, List.map_cons, List.map_nil, List.headD_cons, List.getElem?_cons_zero, List.getElem?_cons_succ, List.set_cons_zero, List.set_cons_succ]
      exact t24
  by_cases z : ptR N 5 0 0 = 0
  · refine ⟨fun y => absurd (by rw [z]; rfl) y, fun _ => ?_⟩
    exact t22 _ _ _ _ _ gk1 ⟨e1, rfl⟩ (by omega) (by omega) (fun _ => rfl) (fun y => absurd z y)
  · refine ⟨fun _ => ?_, fun y => absurd ((n_e0 (by omega)).mp y) z⟩
    refine hK 21 _ _ _ _ _ _ _ _ rfl ?_
    dsimp only [k_W_isPlay_21, hN1, hB, wpI, xop, xcall, xli, xlj, xlf, xld, xla, xlg, xst, xst2, xc1, pI, pJ, pF, pD, pR, pA, p1, p0, xpop, xpush, xsm, xhas, xif, xic, xsw, xai, xal, xhi, xhv, xrf, xret, xrtl, xrtf, xrtd, xrta, xrtv, xfit, xnew, cond_true, cond_false, f40, f41, f42, f43, List.length_cons, List.length_nil, Nat.reduceAdd, Nat.reduceSub, Nat.reduceMul, Nat.reduceBEq, List.map_cons, List.map_nil, List.headD_cons, List.getElem?_cons_zero, List.getElem?_cons_succ, List.set_cons_zero, List.set_cons_succ]
    exact t22 _ _ _ _ _ gk1 ⟨e1, rfl⟩ (by omega) (by omega) (fun y => absurd y z) (fun _ => rfl)
