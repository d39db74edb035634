/-! ===== the law's acts ===== -/
theorem n_rem {a d : Nat} (ha : a < 2 ^ 31) (h0 : 0 < d) (hd : d < 2 ^ 31) : nI a - nI a / nI d * nI d = nI (a % d) := by
  have h := Nat.div_add_mod a d
  have e : a / d * d = d * (a / d) := Nat.mul_comm _ _
  rw [n_div ha h0 hd, pk_mul, n_sub (by omega)]
  congr 1
  omega
theorem saveS_le (s : Nat) : saveS s ≤ 6 := by unfold saveS; split <;> omega
theorem n_sh31 {n k : Nat} (hn : n < 2 ^ 31) (hk : k < 32) : nI n >>> (nI k &&& 31) = nI (n >>> k) := by rw [n_i31 hk, n_shr hn hk]
theorem shr_lt {n k : Nat} (hn : n < 2 ^ 31) : n >>> k < 2 ^ 31 := by
  rw [Nat.shiftRight_eq_div_pow]
  exact Nat.lt_of_le_of_lt (Nat.div_le_self _ _) hn
theorem place_in {r p : Nat} (hr : r < 5) (hp : p < 5 - r) : isPlaceB (nI r) (nI p) = true := by
  have key : ∀ r, r < 5 → ∀ p, p < 5 → (p < 5 - r → isPlaceB (nI r) (nI p) = true) := by decide +kernel
  exact key r hr p (by omega) hp
theorem knockE_of {N : List Nat} {r p : Nat} (hr : r < 5) (hp : p < 5 - r) : knockE N (nI r) (nI p) = if hasN (N.getD 0 0) r p = true then 0 else 12 := by
  unfold knockE
  rw [place_in hr hp, if_neg (by decide), n_cl (by omega), n_cl (by omega)]
theorem putE_of {N : List Nat} {r p : Nat} (hr : r < 5) (hp : p < 5 - r) : putE N (nI r) (nI p) = if hasRoomN (N.getD 0 0) r p = true then 0 else 12 := by
  unfold putE
  rw [place_in hr hp, if_neg (by decide), n_cl (by omega), n_cl (by omega)]
theorem setE_of {w v : Nat} (h : w = 0 ∧ 1 ≤ v ∧ v ≤ 3 ∨ (w = 1 ∨ w = 2) ∧ v < 2) : setE (nI w) (nI v) = 0 := by
  have k0 : ∀ v, v < 4 → 1 ≤ v → setE (nI 0) (nI v) = 0 := by decide +kernel
  have k1 : ∀ v, v < 2 → setE (nI 1) (nI v) = 0 ∧ setE (nI 2) (nI v) = 0 := by decide +kernel
  rcases h with ⟨rfl, h1, h2⟩ | ⟨rfl | rfl, h1⟩
  · exact k0 v (by omega) h1
  · exact (k1 v h1).1
  · exact (k1 v h1).2
theorem st_set {N : List Nat} {w v : Nat} (ok : stN N) (h : w = 0 ∧ 1 ≤ v ∧ v ≤ 3 ∨ (w = 1 ∨ w = 2) ∧ v < 2) : stN (N.set (3 + w) v) := by
  obtain ⟨hN, h0, h1, h3, h3', h4, h5⟩ := ok
  have e : ∀ k, (N.set (3 + w) v).getD k 0 = if k = 3 + w then v else N.getD k 0 := fun k => by
    by_cases z : k = 3 + w
    · subst z
      rw [if_pos rfl, gs_eq (by omega)]
    · rw [if_neg z, gs_ne (Ne.symm z)]
  refine ⟨List.length_set.trans hN, ?_, ?_, ?_, ?_, ?_, ?_⟩ <;> rw [e] <;> split <;> omega
set_option maxRecDepth 100000 in
set_option maxHeartbeats 4000000 in
theorem ey_acts {sc : Option (List Int32)} (q : Nat) (N V S C : List Nat) (P : List Value) (sv tl : Nat) (has : Bool) (g : xH) (n : Nat) (hn : n < 2 ^ 31) (okl : okL q N) (hq9 : q ≤ 900) (hV : V.length = 108) (hs6 : sv ≤ 6) (gk : gOk P g) (Q : Option Value → xH → Prop)
    (hQ : ∀ N' V' P' sv' g', okL (q + 3) N' → V'.length = 108 → sv' ≤ 6 → gOk P' g' → Q (some (.int (nI 1))) (hB N' V' S C P' sv' tl has g')) :
    E_acts sc [.ref 0, .int (nI n)] (hB N V S C P sv tl has g) Q := by
  have ok := okl.1
  have hm := okl.2.1
  have ok' := ok
  obtain ⟨hN, h0, h1, h3, h3', h4, h5⟩ := ok'
  have hm0 := shp_lt hm
  have pm := pop_le hm0
  have hV2 := save_len ok.1 hV hs6
  have hs2 : saveS sv ≤ 6 := by unfold saveS; split <;> omega
  have n4 := shr_lt (k := 4) hn
  have n8 := shr_lt (k := 8) hn
  refine ⟨Nat.le_of_ble_eq_true rfl, ?_⟩
  intro K hK hC
  show K 0 [some (.ref 0), some (.int (nI n)), none, none, none, none, none, none, none, none, none, none, none, none, none, none] [] (hB N V S C P sv tl has g) 0 0
  obtain ⟨r, er, hr⟩ : ∃ r, (n >>> 4) % 5 = r ∧ r < 5 := ⟨_, rfl, Nat.mod_lt _ (by decide)⟩
  obtain ⟨p, ep, hp⟩ : ∃ p, (n >>> 8) % (5 - r) = p ∧ p < 5 - r := ⟨_, rfl, Nat.mod_lt _ (by omega)⟩
  have rl := rs_lt r
  have rl2 := rs_lt (r - 1)
  refine hK 0 _ _ _ _ _ _ rfl rfl ?_
  dsimp only [k_Y_acts_0, hN1, hB, wpI, xop, xcall, xli, xlj, xlf, xld, xla, xlg, xst, xst2, xc1, pI, pJ, pF, pD, pR, pA, p1, p0, xpop, xpush, xsm, xhas, xif, xic, xsw, xai, xal, xhi, xhv, xrf, xret, xrtl, xrtf, xrtd, xrta, xrtv, xfit, xnew, cond_true, cond_false, f40, f41, f42, f43, List.length_cons, List.length_nil, Nat.reduceAdd, Nat.reduceSub, Nat.reduceMul, Nat.reduceBEq, List.map_cons, List.map_nil, List.headD_cons, List.getElem?_cons_zero, List.getElem?_cons_succ, List.set_cons_zero, List.set_cons_succ]
  rw [n_sh31 hn (show 4 < 32 by decide), n_sh31 hn (show 8 < 32 by decide), n_rem n4 (show 0 < 5 by decide) (by decide), er, n_sub (a := 5) (b := r) (by omega), n_rem n8 (show 0 < 5 - r by omega) (by omega), ep]
  refine ⟨by decide, fun w => absurd ((n_e0 (by omega)).mp w) (by omega), by decide, by decide, ?_⟩
  refine Ev_use (ev_count0 _ N V S C P sv tl has g 0 ok (by decide)) ?_
  dsimp only [hN1, hB, wpI, xop, xcall, xli, xlj, xlf, xld, xla, xlg, xst, xst2, xc1, pI, pJ, pF, pD, pR, pA, p1, p0, xpop, xpush, xsm, xhas, xif, xic, xsw, xai, xal, xhi, xhv, xrf, xret, xrtl, xrtf, xrtd, xrta, xrtv, xfit, xnew, cond_true, cond_false, f40, f41, f42, f43, List.length_cons, List.length_nil, Nat.reduceAdd, Nat.reduceSub, Nat.reduceMul, Nat.reduceBEq, List.map_cons, List.map_nil, List.headD_cons, List.getElem?_cons_zero, List.getElem?_cons_succ, List.set_cons_zero, List.set_cons_succ]
  rw [cnt_0]
  refine ⟨by decide, by decide, ?_⟩
  refine Ev_use (ev_count0 _ N V S C P sv tl has g 1 ok (by decide)) ?_
  dsimp only [hN1, hB, wpI, xop, xcall, xli, xlj, xlf, xld, xla, xlg, xst, xst2, xc1, pI, pJ, pF, pD, pR, pA, p1, p0, xpop, xpush, xsm, xhas, xif, xic, xsw, xai, xal, xhi, xhv, xrf, xret, xrtl, xrtf, xrtd, xrta, xrtv, xfit, xnew, cond_true, cond_false, f40, f41, f42, f43, List.length_cons, List.length_nil, Nat.reduceAdd, Nat.reduceSub, Nat.reduceMul, Nat.reduceBEq, List.map_cons, List.map_nil, List.headD_cons, List.getElem?_cons_zero, List.getElem?_cons_succ, List.set_cons_zero, List.set_cons_succ]
  rw [cnt_1]
  refine Ev_use (ev_first _ r _ hr) ?_
  dsimp only [hN1, hB, wpI, xop, xcall, xli, xlj, xlf, xld, xla, xlg, xst, xst2, xc1, pI, pJ, pF, pD, pR, pA, p1, p0, xpop, xpush, xsm, xhas, xif, xic, xsw, xai, xal, xhi, xhv, xrf, xret, xrtl, xrtf, xrtd, xrta, xrtv, xfit, xnew, cond_true, cond_false, f40, f41, f42, f43, List.length_cons, List.length_nil, Nat.reduceAdd, Nat.reduceSub, Nat.reduceMul, Nat.reduceBEq, List.map_cons, List.map_nil, List.headD_cons, List.getElem?_cons_zero, List.getElem?_cons_succ, List.set_cons_zero, List.set_cons_succ]
  try simp (disch := omega) only [nI_add, n_and, n_or, n_xor, n_i31, nI_leI, nI_ltI, n_e0, n_eq, n_m1e, n_l0, n_g0, n_p0, n_q0, n_cl, n_in, n_sub, n_shr, n_shl, n_div, bI_0, n_01, n_11, bI_or, not_false_eq_true, forall_const, not_true_eq_false, false_imp_iff, true_imp_iff]
  rw [q_has]
  have t2 : ∀ x : Nat, x = (if hasN (N.getD 0 0) r p = true then 1 else 0) → K 2 [some (.ref 0), some (.int (nI n)), some (.int (nI r)), some (.int (nI p)), some (.int (nI (N.getD 0 0))), some (.int (nI (pop (N.getD 0 0)))), none, none, none, none, none, none, none, none, none, none] [.int (nI x)] (hB N V S C P sv tl has g) 2 12 := by
    intro x ex
    refine hK 2 _ _ _ _ _ _ rfl rfl ?_
    dsimp only [k_Y_acts_2, hN1, hB, wpI, xop, xcall, xli, xlj, xlf, xld, xla, xlg, xst, xst2, xc1, pI, pJ, pF, pD, pR, pA, p1, p0, xpop, xpush, xsm, xhas, xif, xic, xsw, xai, xal, xhi, xhv, xrf, xret, xrtl, xrtf, xrtd, xrta, xrtv, xfit, xnew, cond_true, cond_false, f40, f41, f42, f43, List.length_cons, List.length_nil, Nat.reduceAdd, Nat.reduceSub, Nat.reduceMul, Nat.reduceBEq, List.map_cons, List.map_nil, List.headD_cons, List.getElem?_cons_zero, List.getElem?_cons_succ, List.set_cons_zero, List.set_cons_succ, List.map]
    refine ⟨by decide, ?_⟩
    refine ⟨fun _ => ?_, fun _ => ⟨fun _ => ?_, fun _ => ⟨fun _ => ?_, fun _ => ⟨fun _ => ?_, fun _ => ?_⟩⟩⟩⟩
    · -- a bottle is knocked out
      refine hK 3 _ _ _ _ _ _ rfl rfl ?_
      dsimp only [k_Y_acts_3, hN1, hB, wpI, xop, xcall, xli, xlj, xlf, xld, xla, xlg, xst, xst2, xc1, pI, pJ, pF, pD, pR, pA, p1, p0, xpop, xpush, xsm, xhas, xif, xic, xsw, xai, xal, xhi, xhv, xrf, xret, xrtl, xrtf, xrtd, xrta, xrtv, xfit, xnew, cond_true, cond_false, f40, f41, f42, f43, List.length_cons, List.length_nil, Nat.reduceAdd, Nat.reduceSub, Nat.reduceMul, Nat.reduceBEq, List.map_cons, List.map_nil, List.headD_cons, List.getElem?_cons_zero, List.getElem?_cons_succ, List.set_cons_zero, List.set_cons_succ]
      refine hC (4, 4, 1, 6, false, E_act sc) List.mem_cons_self [.ref 0, .int (nI 1), .int (nI r), .int (nI p)] [] _ _ _ _ (fun v h' => (hasN (N.getD 0 0) r p = true ∧ v = some (.int (nI (pop (fallM (kncU (N.getD 0 0) r p))))) ∧ h' = hB (knockN N r p) (saveV N V sv) S C P (saveS sv) tl has g) ∨ (¬ hasN (N.getD 0 0) r p = true ∧ v = some (.int (-103)) ∧ h' = hB N V S C P sv tl has g)) rfl (by decide) (Nat.le_of_ble_eq_true rfl) (Nat.le_of_ble_eq_true rfl) (fun z => nomatch z) (ac_knock N V S C P sv tl has g (nI r) (nI p) ok hV hs6 (fun w => ?_) (fun w => ?_) (fun w => ?_)) ?_
      · rw [knockE_of hr hp] at w
        rw [n_cl (by omega), n_cl (by omega)]
        by_cases z : hasN (N.getD 0 0) r p = true
        · exact Or.inl ⟨z, rfl, rfl⟩
        · rw [if_neg z] at w; exact nomatch w
      · rw [knockE_of hr hp] at w
        split at w <;> exact nomatch w
      · rw [knockE_of hr hp] at w
        by_cases z : hasN (N.getD 0 0) r p = true
        · rw [if_pos z] at w; exact nomatch w
        · exact Or.inr ⟨z, rfl, rfl⟩
      rintro v h' (⟨z, rfl, rfl⟩ | ⟨z, rfl, rfl⟩)
      · rw [if_pos z] at ex
        subst ex
        obtain ⟨k1, k2, k3⟩ := q_knc hm hr hp z
        obtain ⟨j1, j2, j3⟩ := knk_st ok hm hr hp z
        have okl2 := okL_knock okl hr hp z
        refine hK 5 _ _ _ _ _ _ rfl rfl ?_
        dsimp only [k_Y_acts_5, hN1, hB, wpI, xop, xcall, xli, xlj, xlf, xld, xla, xlg, xst, xst2, xc1, pI, pJ, pF, pD, pR, pA, p1, p0, xpop, xpush, xsm, xhas, xif, xic, xsw, xai, xal, xhi, xhv, xrf, xret, xrtl, xrtf, xrtd, xrta, xrtv, xfit, xnew, cond_true, cond_false, f40, f41, f42, f43, List.length_cons, List.length_nil, Nat.reduceAdd, Nat.reduceSub, Nat.reduceMul, Nat.reduceBEq, List.map_cons, List.map_nil, List.headD_cons, List.getElem?_cons_zero, List.getElem?_cons_succ, List.set_cons_zero, List.set_cons_succ]
        refine br_f (by decide) ⟨fun w => absurd w (nI_pos (by omega)), fun _ => ⟨by decide, by decide, ?_⟩⟩
        refine Ev_use (ev_count0 _ (knockN N r p) _ S C P _ tl has g 1 okl2.1 (by decide)) ?_
        dsimp only [hN1, hB, wpI, xop, xcall, xli, xlj, xlf, xld, xla, xlg, xst, xst2, xc1, pI, pJ, pF, pD, pR, pA, p1, p0, xpop, xpush, xsm, xhas, xif, xic, xsw, xai, xal, xhi, xhv, xrf, xret, xrtl, xrtf, xrtd, xrta, xrtv, xfit, xnew, cond_true, cond_false, f40, f41, f42, f43, List.length_cons, List.length_nil, Nat.reduceAdd, Nat.reduceSub, Nat.reduceMul, Nat.reduceBEq, List.map_cons, List.map_nil, List.headD_cons, List.getElem?_cons_zero, List.getElem?_cons_succ, List.set_cons_zero, List.set_cons_succ]
        rw [cnt_1, j1, n_sub (a := pop (N.getD 0 0)) (b := 1) (by omega), n_sub (a := pop (N.getD 0 0) - 1) (b := pop (fallM (kncU (N.getD 0 0) r p))) (by omega)]
        refine ⟨fun w => absurd (congrArg nI (by omega)) w, fun _ => ?_⟩
        refine hK 9 _ _ _ _ _ _ rfl rfl ?_
        dsimp only [k_Y_acts_9, hN1, hB, wpI, xop, xcall, xli, xlj, xlf, xld, xla, xlg, xst, xst2, xc1, pI, pJ, pF, pD, pR, pA, p1, p0, xpop, xpush, xsm, xhas, xif, xic, xsw, xai, xal, xhi, xhv, xrf, xret, xrtl, xrtf, xrtd, xrta, xrtv, xfit, xnew, cond_true, cond_false, f40, f41, f42, f43, List.length_cons, List.length_nil, Nat.reduceAdd, Nat.reduceSub, Nat.reduceMul, Nat.reduceBEq, List.map_cons, List.map_nil, List.headD_cons, List.getElem?_cons_zero, List.getElem?_cons_succ, List.set_cons_zero, List.set_cons_succ]
        exact ⟨Or.inr rfl, by decide, by decide, hQ _ _ _ _ _ (okL_le okl2 (by omega)) hV2 hs2 gk⟩
      · rw [if_neg z] at ex
        subst ex
        refine hK 5 _ _ _ _ _ _ rfl rfl ?_
        dsimp only [k_Y_acts_5, hN1, hB, wpI, xop, xcall, xli, xlj, xlf, xld, xla, xlg, xst, xst2, xc1, pI, pJ, pF, pD, pR, pA, p1, p0, xpop, xpush, xsm, xhas, xif, xic, xsw, xai, xal, xhi, xhv, xrf, xret, xrtl, xrtf, xrtd, xrta, xrtv, xfit, xnew, cond_true, cond_false, f40, f41, f42, f43, List.length_cons, List.length_nil, Nat.reduceAdd, Nat.reduceSub, Nat.reduceMul, Nat.reduceBEq, List.map_cons, List.map_nil, List.headD_cons, List.getElem?_cons_zero, List.getElem?_cons_succ, List.set_cons_zero, List.set_cons_succ]
        refine br_t rfl ?_
        refine hK 7 _ _ _ _ _ _ rfl rfl ?_
        dsimp only [k_Y_acts_7, hN1, hB, wpI, xop, xcall, xli, xlj, xlf, xld, xla, xlg, xst, xst2, xc1, pI, pJ, pF, pD, pR, pA, p1, p0, xpop, xpush, xsm, xhas, xif, xic, xsw, xai, xal, xhi, xhv, xrf, xret, xrtl, xrtf, xrtd, xrta, xrtv, xfit, xnew, cond_true, cond_false, f40, f41, f42, f43, List.length_cons, List.length_nil, Nat.reduceAdd, Nat.reduceSub, Nat.reduceMul, Nat.reduceBEq, List.map_cons, List.map_nil, List.headD_cons, List.getElem?_cons_zero, List.getElem?_cons_succ, List.set_cons_zero, List.set_cons_succ]
        refine ⟨fun w => absurd rfl w, fun _ => ⟨by decide, by decide, ?_⟩⟩
        refine Ev_use (ev_count0 _ N V S C P sv tl has g 0 ok (by decide)) ?_
        dsimp only [hN1, hB, wpI, xop, xcall, xli, xlj, xlf, xld, xla, xlg, xst, xst2, xc1, pI, pJ, pF, pD, pR, pA, p1, p0, xpop, xpush, xsm, xhas, xif, xic, xsw, xai, xal, xhi, xhv, xrf, xret, xrtl, xrtf, xrtd, xrta, xrtv, xfit, xnew, cond_true, cond_false, f40, f41, f42, f43, List.length_cons, List.length_nil, Nat.reduceAdd, Nat.reduceSub, Nat.reduceMul, Nat.reduceBEq, List.map_cons, List.map_nil, List.headD_cons, List.getElem?_cons_zero, List.getElem?_cons_succ, List.set_cons_zero, List.set_cons_succ]
        rw [cnt_0]
        refine ⟨fun w => absurd rfl w, fun _ => ?_⟩
        refine hK 9 _ _ _ _ _ _ rfl rfl ?_
        dsimp only [k_Y_acts_9, hN1, hB, wpI, xop, xcall, xli, xlj, xlf, xld, xla, xlg, xst, xst2, xc1, pI, pJ, pF, pD, pR, pA, p1, p0, xpop, xpush, xsm, xhas, xif, xic, xsw, xai, xal, xhi, xhv, xrf, xret, xrtl, xrtf, xrtd, xrta, xrtv, xfit, xnew, cond_true, cond_false, f40, f41, f42, f43, List.length_cons, List.length_nil, Nat.reduceAdd, Nat.reduceSub, Nat.reduceMul, Nat.reduceBEq, List.map_cons, List.map_nil, List.headD_cons, List.getElem?_cons_zero, List.getElem?_cons_succ, List.set_cons_zero, List.set_cons_succ]
        exact ⟨Or.inr rfl, by decide, by decide, hQ _ _ _ _ _ (okL_le okl (by omega)) hV hs6 gk⟩
    · -- a bottle is put
      have t13 : ∀ y : Nat, y = (if (r == 0 || (hasN (N.getD 0 0) (r - 1) p && hasN (N.getD 0 0) (r - 1) (p + 1))) = true then 1 else 0) → K 13 [some (.ref 0), some (.int (nI n)), some (.int (nI r)), some (.int (nI p)), some (.int (nI (N.getD 0 0))), some (.int (nI (pop (N.getD 0 0)))), some (.int (nI x)), none, none, none, none, none, none, none, none, none] [.int (nI y)] (hB N V S C P sv tl has g) 2 12 := by
        intro y ey
        refine hK 13 _ _ _ _ _ _ rfl rfl ?_
        dsimp only [k_Y_acts_13, hN1, hB, wpI, xop, xcall, xli, xlj, xlf, xld, xla, xlg, xst, xst2, xc1, pI, pJ, pF, pD, pR, pA, p1, p0, xpop, xpush, xsm, xhas, xif, xic, xsw, xai, xal, xhi, xhv, xrf, xret, xrtl, xrtf, xrtd, xrta, xrtv, xfit, xnew, cond_true, cond_false, f40, f41, f42, f43, List.length_cons, List.length_nil, Nat.reduceAdd, Nat.reduceSub, Nat.reduceMul, Nat.reduceBEq, List.map_cons, List.map_nil, List.headD_cons, List.getElem?_cons_zero, List.getElem?_cons_succ, List.set_cons_zero, List.set_cons_succ]
        have hroom : hasRoomN (N.getD 0 0) r p = true ↔ (¬ hasN (N.getD 0 0) r p = true ∧ (r == 0 || (hasN (N.getD 0 0) (r - 1) p && hasN (N.getD 0 0) (r - 1) (p + 1))) = true) := by
          unfold hasRoomN
          rw [Bool.and_eq_true, Bool.not_eq_true', Bool.not_eq_true]
        refine hC (14, 4, 1, 6, false, E_act sc) (List.mem_cons_of_mem _ List.mem_cons_self) [.ref 0, .int (nI 2), .int (nI r), .int (nI p)] [] _ _ _ _ (fun v h' => (hasRoomN (N.getD 0 0) r p = true ∧ v = some (.int (nI (pop (putU (N.getD 0 0) r p)))) ∧ h' = hB (N.set 0 (putU (N.getD 0 0) r p)) (saveV N V sv) S C P (saveS sv) tl has g) ∨ (¬ hasRoomN (N.getD 0 0) r p = true ∧ v = some (.int (-103)) ∧ h' = hB N V S C P sv tl has g)) rfl (by decide) (Nat.le_of_ble_eq_true rfl) (Nat.le_of_ble_eq_true rfl) (fun z => nomatch z) (ac_put N V S C P sv tl has g (nI r) (nI p) ok hV hs6 (fun w => ?_) (fun w => ?_) (fun w => ?_)) ?_
        · rw [putE_of hr hp] at w
          rw [n_cl (by omega), n_cl (by omega)]
          by_cases z : hasRoomN (N.getD 0 0) r p = true
          · exact Or.inl ⟨z, rfl, rfl⟩
          · rw [if_neg z] at w; exact nomatch w
        · rw [putE_of hr hp] at w
          split at w <;> exact nomatch w
        · rw [putE_of hr hp] at w
          by_cases z : hasRoomN (N.getD 0 0) r p = true
          · rw [if_pos z] at w; exact nomatch w
          · exact Or.inr ⟨z, rfl, rfl⟩
        rintro v h' (⟨z, rfl, rfl⟩ | ⟨z, rfl, rfl⟩)
        · obtain ⟨z1, z2⟩ := hroom.mp z
          rw [if_neg z1] at ex
          rw [if_pos z2] at ey
          subst ex ey
          obtain ⟨k1, k2, k3⟩ := q_put hm hr hp z
          have okl2 := okL_put okl hr hp z
          have e0 : (N.set 0 (putU (N.getD 0 0) r p)).getD 0 0 = putU (N.getD 0 0) r p := gs_eq (by omega)
          have hu := shp_lt k1
          refine hK 15 _ _ _ _ _ _ rfl rfl ?_
          dsimp only [k_Y_acts_15, hN1, hB, wpI, xop, xcall, xli, xlj, xlf, xld, xla, xlg, xst, xst2, xc1, pI, pJ, pF, pD, pR, pA, p1, p0, xpop, xpush, xsm, xhas, xif, xic, xsw, xai, xal, xhi, xhv, xrf, xret, xrtl, xrtf, xrtd, xrta, xrtv, xfit, xnew, cond_true, cond_false, f40, f41, f42, f43, List.length_cons, List.length_nil, Nat.reduceAdd, Nat.reduceSub, Nat.reduceMul, Nat.reduceBEq, List.map_cons, List.map_nil, List.headD_cons, List.getElem?_cons_zero, List.getElem?_cons_succ, List.set_cons_zero, List.set_cons_succ]
          refine ⟨fun w => absurd rfl w, fun _ => ⟨fun _ => ?_, fun w => absurd w (by decide)⟩⟩
          refine hK 18 _ _ _ _ _ _ rfl rfl ?_
          dsimp only [k_Y_acts_18, hN1, hB, wpI, xop, xcall, xli, xlj, xlf, xld, xla, xlg, xst, xst2, xc1, pI, pJ, pF, pD, pR, pA, p1, p0, xpop, xpush, xsm, xhas, xif, xic, xsw, xai, xal, xhi, xhv, xrf, xret, xrtl, xrtf, xrtd, xrta, xrtv, xfit, xnew, cond_true, cond_false, f40, f41, f42, f43, List.length_cons, List.length_nil, Nat.reduceAdd, Nat.reduceSub, Nat.reduceMul, Nat.reduceBEq, List.map_cons, List.map_nil, List.headD_cons, List.getElem?_cons_zero, List.getElem?_cons_succ, List.set_cons_zero, List.set_cons_succ]
          rw [k2, nI_add (pop (N.getD 0 0)) 1]
          refine ⟨fun w => absurd rfl w, fun _ => ⟨by decide, by decide, ?_⟩⟩
          refine Ev_use (ev_count0 _ (N.set 0 (putU (N.getD 0 0) r p)) _ S C P _ tl has g 0 okl2.1 (by decide)) ?_
          dsimp only [hN1, hB, wpI, xop, xcall, xli, xlj, xlf, xld, xla, xlg, xst, xst2, xc1, pI, pJ, pF, pD, pR, pA, p1, p0, xpop, xpush, xsm, xhas, xif, xic, xsw, xai, xal, xhi, xhv, xrf, xret, xrtl, xrtf, xrtd, xrta, xrtv, xfit, xnew, cond_true, cond_false, f40, f41, f42, f43, List.length_cons, List.length_nil, Nat.reduceAdd, Nat.reduceSub, Nat.reduceMul, Nat.reduceBEq, List.map_cons, List.map_nil, List.headD_cons, List.getElem?_cons_zero, List.getElem?_cons_succ, List.set_cons_zero, List.set_cons_succ]
          rw [cnt_0, e0]
          refine Ev_use (ev_first _ r _ hr) ?_
          dsimp only [hN1, hB, wpI, xop, xcall, xli, xlj, xlf, xld, xla, xlg, xst, xst2, xc1, pI, pJ, pF, pD, pR, pA, p1, p0, xpop, xpush, xsm, xhas, xif, xic, xsw, xai, xal, xhi, xhv, xrf, xret, xrtl, xrtf, xrtd, xrta, xrtv, xfit, xnew, cond_true, cond_false, f40, f41, f42, f43, List.length_cons, List.length_nil, Nat.reduceAdd, Nat.reduceSub, Nat.reduceMul, Nat.reduceBEq, List.map_cons, List.map_nil, List.headD_cons, List.getElem?_cons_zero, List.getElem?_cons_succ, List.set_cons_zero, List.set_cons_succ]
          rw [nI_add (rsN r) p, n_sh31 (Nat.lt_trans hu (by decide)) (show rsN r + p < 32 by omega), n_and, q_has, if_pos k3]
          refine ⟨fun w => absurd rfl w, fun _ => ?_⟩
          refine hK 20 _ _ _ _ _ _ rfl rfl ?_
          dsimp only [k_Y_acts_20, hN1, hB, wpI, xop, xcall, xli, xlj, xlf, xld, xla, xlg, xst, xst2, xc1, pI, pJ, pF, pD, pR, pA, p1, p0, xpop, xpush, xsm, xhas, xif, xic, xsw, xai, xal, xhi, xhv, xrf, xret, xrtl, xrtf, xrtd, xrta, xrtv, xfit, xnew, cond_true, cond_false, f40, f41, f42, f43, List.length_cons, List.length_nil, Nat.reduceAdd, Nat.reduceSub, Nat.reduceMul, Nat.reduceBEq, List.map_cons, List.map_nil, List.headD_cons, List.getElem?_cons_zero, List.getElem?_cons_succ, List.set_cons_zero, List.set_cons_succ]
          exact ⟨Or.inr rfl, by decide, by decide, hQ _ _ _ _ _ (okL_le okl2 (by omega)) hV2 hs2 gk⟩
        · have t16 : ∀ (c s : Nat) (a6 a8 : Option Value), c ≤ 100 → s ≤ 9000 → K 16 [some (.ref 0), some (.int (nI n)), some (.int (nI r)), some (.int (nI p)), some (.int (nI (N.getD 0 0))), some (.int (nI (pop (N.getD 0 0)))), a6, none, a8, some (.int (-103)), none, none, none, none, none, none] [] (hB N V S C P sv tl has g) c s := by
            intro c s a6 a8 hc hs
            refine hK 16 _ _ _ _ _ _ rfl rfl ?_
            dsimp only [k_Y_acts_16, hN1, hB, wpI, xop, xcall, xli, xlj, xlf, xld, xla, xlg, xst, xst2, xc1, pI, pJ, pF, pD, pR, pA, p1, p0, xpop, xpush, xsm, xhas, xif, xic, xsw, xai, xal, xhi, xhv, xrf, xret, xrtl, xrtf, xrtd, xrta, xrtv, xfit, xnew, cond_true, cond_false, f40, f41, f42, f43, List.length_cons, List.length_nil, Nat.reduceAdd, Nat.reduceSub, Nat.reduceMul, Nat.reduceBEq, List.map_cons, List.map_nil, List.headD_cons, List.getElem?_cons_zero, List.getElem?_cons_succ, List.set_cons_zero, List.set_cons_succ]
            refine ⟨fun w => absurd rfl w, fun _ => ?_⟩
            refine hK 20 _ _ _ _ _ _ rfl rfl ?_
            dsimp only [k_Y_acts_20, hN1, hB, wpI, xop, xcall, xli, xlj, xlf, xld, xla, xlg, xst, xst2, xc1, pI, pJ, pF, pD, pR, pA, p1, p0, xpop, xpush, xsm, xhas, xif, xic, xsw, xai, xal, xhi, xhv, xrf, xret, xrtl, xrtf, xrtd, xrta, xrtv, xfit, xnew, cond_true, cond_false, f40, f41, f42, f43, List.length_cons, List.length_nil, Nat.reduceAdd, Nat.reduceSub, Nat.reduceMul, Nat.reduceBEq, List.map_cons, List.map_nil, List.headD_cons, List.getElem?_cons_zero, List.getElem?_cons_succ, List.set_cons_zero, List.set_cons_succ]
            exact ⟨Or.inr rfl, by omega, by omega, hQ _ _ _ _ _ (okL_le okl (by omega)) hV hs6 gk⟩
          refine hK 15 _ _ _ _ _ _ rfl rfl ?_
          dsimp only [k_Y_acts_15, hN1, hB, wpI, xop, xcall, xli, xlj, xlf, xld, xla, xlg, xst, xst2, xc1, pI, pJ, pF, pD, pR, pA, p1, p0, xpop, xpush, xsm, xhas, xif, xic, xsw, xai, xal, xhi, xhv, xrf, xret, xrtl, xrtf, xrtd, xrta, xrtv, xfit, xnew, cond_true, cond_false, f40, f41, f42, f43, List.length_cons, List.length_nil, Nat.reduceAdd, Nat.reduceSub, Nat.reduceMul, Nat.reduceBEq, List.map_cons, List.map_nil, List.headD_cons, List.getElem?_cons_zero, List.getElem?_cons_succ, List.set_cons_zero, List.set_cons_succ]
          by_cases z1 : hasN (N.getD 0 0) r p = true
          · rw [if_pos z1] at ex
            subst ex
            refine ⟨fun _ => t16 _ _ _ _ (by decide) (by decide), fun w => absurd w (by decide)⟩
          · rw [if_neg z1] at ex
            rw [if_neg (fun w => z (hroom.mpr ⟨z1, w⟩))] at ey
            subst ex ey
            exact ⟨fun w => absurd rfl w, fun _ => ⟨fun w => absurd rfl w, fun _ => t16 _ _ _ _ (by decide) (by decide)⟩⟩
      have hq2 := q_two hm hr hp
      refine hK 10 _ _ _ _ _ _ rfl rfl ?_
      dsimp only [k_Y_acts_10, hN1, hB, wpI, xop, xcall, xli, xlj, xlf, xld, xla, xlg, xst, xst2, xc1, pI, pJ, pF, pD, pR, pA, p1, p0, xpop, xpush, xsm, xhas, xif, xic, xsw, xai, xal, xhi, xhv, xrf, xret, xrtl, xrtf, xrtd, xrta, xrtv, xfit, xnew, cond_true, cond_false, f40, f41, f42, f43, List.length_cons, List.length_nil, Nat.reduceAdd, Nat.reduceSub, Nat.reduceMul, Nat.reduceBEq, List.map_cons, List.map_nil, List.headD_cons, List.getElem?_cons_zero, List.getElem?_cons_succ, List.set_cons_zero, List.set_cons_succ]
      refine ⟨fun w => ?_, fun w => ?_⟩
      · have w := (n_e0 (by omega)).mp w
        refine hK 11 _ _ _ _ _ _ rfl rfl ?_
        dsimp only [k_Y_acts_11, hN1, hB, wpI, xop, xcall, xli, xlj, xlf, xld, xla, xlg, xst, xst2, xc1, pI, pJ, pF, pD, pR, pA, p1, p0, xpop, xpush, xsm, xhas, xif, xic, xsw, xai, xal, xhi, xhv, xrf, xret, xrtl, xrtf, xrtd, xrta, xrtv, xfit, xnew, cond_true, cond_false, f40, f41, f42, f43, List.length_cons, List.length_nil, Nat.reduceAdd, Nat.reduceSub, Nat.reduceMul, Nat.reduceBEq, List.map_cons, List.map_nil, List.headD_cons, List.getElem?_cons_zero, List.getElem?_cons_succ, List.set_cons_zero, List.set_cons_succ]
        exact t13 1 (by rw [if_pos (hq2.mp (Or.inl w))])
      · have w : ¬ r = 0 := fun e => w (by rw [e]; rfl)
        rw [n_sub (a := r) (b := 1) (by omega)]
        refine Ev_use (ev_first _ (r - 1) _ (by omega)) ?_
        dsimp only [hN1, hB, wpI, xop, xcall, xli, xlj, xlf, xld, xla, xlg, xst, xst2, xc1, pI, pJ, pF, pD, pR, pA, p1, p0, xpop, xpush, xsm, xhas, xif, xic, xsw, xai, xal, xhi, xhv, xrf, xret, xrtl, xrtf, xrtd, xrta, xrtv, xfit, xnew, cond_true, cond_false, f40, f41, f42, f43, List.length_cons, List.length_nil, Nat.reduceAdd, Nat.reduceSub, Nat.reduceMul, Nat.reduceBEq, List.map_cons, List.map_nil, List.headD_cons, List.getElem?_cons_zero, List.getElem?_cons_succ, List.set_cons_zero, List.set_cons_succ]
        rw [nI_add (rsN (r - 1)) p, n_sh31 (Nat.lt_trans hm0 (by decide)) (show rsN (r - 1) + p < 32 by omega), n_and]
        have h3 : N.getD 0 0 >>> (rsN (r - 1) + p) &&& 3 ≤ 3 := Nat.and_le_right
        refine ⟨fun w2 => ?_, fun w2 => ?_⟩
        · refine hK 12 _ _ _ _ _ _ rfl rfl ?_
          dsimp only [k_Y_acts_12, hN1, hB, wpI, xop, xcall, xli, xlj, xlf, xld, xla, xlg, xst, xst2, xc1, pI, pJ, pF, pD, pR, pA, p1, p0, xpop, xpush, xsm, xhas, xif, xic, xsw, xai, xal, xhi, xhv, xrf, xret, xrtl, xrtf, xrtd, xrta, xrtv, xfit, xnew, cond_true, cond_false, f40, f41, f42, f43, List.length_cons, List.length_nil, Nat.reduceAdd, Nat.reduceSub, Nat.reduceMul, Nat.reduceBEq, List.map_cons, List.map_nil, List.headD_cons, List.getElem?_cons_zero, List.getElem?_cons_succ, List.set_cons_zero, List.set_cons_succ]
          exact t13 0 (by rw [if_neg (fun e => (hq2.mpr e).elim w (fun e => w2 (by rw [e])))])
        · refine hK 11 _ _ _ _ _ _ rfl rfl ?_
          dsimp only [k_Y_acts_11, hN1, hB, wpI, xop, xcall, xli, xlj, xlf, xld, xla, xlg, xst, xst2, xc1, pI, pJ, pF, pD, pR, pA, p1, p0, xpop, xpush, xsm, xhas, xif, xic, xsw, xai, xal, xhi, xhv, xrf, xret, xrtl, xrtf, xrtd, xrta, xrtv, xfit, xnew, cond_true, cond_false, f40, f41, f42, f43, List.length_cons, List.length_nil, Nat.reduceAdd, Nat.reduceSub, Nat.reduceMul, Nat.reduceBEq, List.map_cons, List.map_nil, List.headD_cons, List.getElem?_cons_zero, List.getElem?_cons_succ, List.set_cons_zero, List.set_cons_succ]
          exact t13 1 (by rw [if_pos (hq2.mp (Or.inr ((n_eq (by omega) (by decide)).mp w2)))])
    · -- mirrored, and back
      obtain ⟨r1, r2, r3⟩ := q_mir hm
      have okl2 := okL_swap okl
      have okl3 := okL_swap okl2
      have e0 : (swapN N).getD 0 0 = mirN (N.getD 0 0) := by
        show ((N.set 0 (mirN (N.getD 0 0))).set 1 (1 - N.getD 1 0)).getD 0 0 = _
        rw [gs_ne (by decide), gs_eq (by omega)]
      have e1 : (swapN N).getD 1 0 = 1 - N.getD 1 0 := by
        show ((N.set 0 (mirN (N.getD 0 0))).set 1 (1 - N.getD 1 0)).getD 1 0 = _
        exact gs_eq (by rw [List.length_set]; omega)
      have hN2 := okl2.1.1
      have f0 : (swapN (swapN N)).getD 0 0 = N.getD 0 0 := by
        show (((swapN N).set 0 (mirN ((swapN N).getD 0 0))).set 1 (1 - (swapN N).getD 1 0)).getD 0 0 = _
        rw [gs_ne (by decide), gs_eq (by omega), e0, r3]
      have f1 : (swapN (swapN N)).getD 1 0 = N.getD 1 0 := by
        show (((swapN N).set 0 (mirN ((swapN N).getD 0 0))).set 1 (1 - (swapN N).getD 1 0)).getD 1 0 = _
        rw [gs_eq (by rw [List.length_set]; omega), e1]
        omega
      have hV3 := save_len okl2.1.1 hV2 hs2
      have hs3 : saveS (saveS sv) ≤ 6 := saveS_le _
      have hV4 := save_len okl3.1.1 hV3 hs3
      have hs4 : saveS (saveS (saveS sv)) ≤ 6 := saveS_le _
      refine hK 21 _ _ _ _ _ _ rfl rfl ?_
      dsimp only [k_Y_acts_21, hN1, hB, wpI, xop, xcall, xli, xlj, xlf, xld, xla, xlg, xst, xst2, xc1, pI, pJ, pF, pD, pR, pA, p1, p0, xpop, xpush, xsm, xhas, xif, xic, xsw, xai, xal, xhi, xhv, xrf, xret, xrtl, xrtf, xrtd, xrta, xrtv, xfit, xnew, cond_true, cond_false, f40, f41, f42, f43, List.length_cons, List.length_nil, Nat.reduceAdd, Nat.reduceSub, Nat.reduceMul, Nat.reduceBEq, List.map_cons, List.map_nil, List.headD_cons, List.getElem?_cons_zero, List.getElem?_cons_succ, List.set_cons_zero, List.set_cons_succ]
      refine ⟨by decide, by decide, ?_⟩
      refine Ev_use (ev_count0 _ N V S C P sv tl has g 2 ok (by decide)) ?_
      dsimp only [hN1, hB, wpI, xop, xcall, xli, xlj, xlf, xld, xla, xlg, xst, xst2, xc1, pI, pJ, pF, pD, pR, pA, p1, p0, xpop, xpush, xsm, xhas, xif, xic, xsw, xai, xal, xhi, xhv, xrf, xret, xrtl, xrtf, xrtd, xrta, xrtv, xfit, xnew, cond_true, cond_false, f40, f41, f42, f43, List.length_cons, List.length_nil, Nat.reduceAdd, Nat.reduceSub, Nat.reduceMul, Nat.reduceBEq, List.map_cons, List.map_nil, List.headD_cons, List.getElem?_cons_zero, List.getElem?_cons_succ, List.set_cons_zero, List.set_cons_succ]
      rw [cnt_2]
      refine Ev_use (ev_mirror _ N V S C P sv tl has g ok hV hs6) ?_
      dsimp only [hN1, hB, wpI, xop, xcall, xli, xlj, xlf, xld, xla, xlg, xst, xst2, xc1, pI, pJ, pF, pD, pR, pA, p1, p0, xpop, xpush, xsm, xhas, xif, xic, xsw, xai, xal, xhi, xhv, xrf, xret, xrtl, xrtf, xrtd, xrta, xrtv, xfit, xnew, cond_true, cond_false, f40, f41, f42, f43, List.length_cons, List.length_nil, Nat.reduceAdd, Nat.reduceSub, Nat.reduceMul, Nat.reduceBEq, List.map_cons, List.map_nil, List.headD_cons, List.getElem?_cons_zero, List.getElem?_cons_succ, List.set_cons_zero, List.set_cons_succ]
      refine ⟨by decide, by decide, ?_⟩
      refine Ev_use (ev_count0 _ (swapN N) _ S C P _ tl has g 0 okl2.1 (by decide)) ?_
      dsimp only [hN1, hB, wpI, xop, xcall, xli, xlj, xlf, xld, xla, xlg, xst, xst2, xc1, pI, pJ, pF, pD, pR, pA, p1, p0, xpop, xpush, xsm, xhas, xif, xic, xsw, xai, xal, xhi, xhv, xrf, xret, xrtl, xrtf, xrtd, xrta, xrtv, xfit, xnew, cond_true, cond_false, f40, f41, f42, f43, List.length_cons, List.length_nil, Nat.reduceAdd, Nat.reduceSub, Nat.reduceMul, Nat.reduceBEq, List.map_cons, List.map_nil, List.headD_cons, List.getElem?_cons_zero, List.getElem?_cons_succ, List.set_cons_zero, List.set_cons_succ]
      rw [cnt_0, e0]
      refine ⟨fun w => absurd rfl w, fun _ => ⟨by decide, by decide, ?_⟩⟩
      refine Ev_use (ev_count0 _ (swapN N) _ S C P _ tl has g 2 okl2.1 (by decide)) ?_
      dsimp only [hN1, hB, wpI, xop, xcall, xli, xlj, xlf, xld, xla, xlg, xst, xst2, xc1, pI, pJ, pF, pD, pR, pA, p1, p0, xpop, xpush, xsm, xhas, xif, xic, xsw, xai, xal, xhi, xhv, xrf, xret, xrtl, xrtf, xrtd, xrta, xrtv, xfit, xnew, cond_true, cond_false, f40, f41, f42, f43, List.length_cons, List.length_nil, Nat.reduceAdd, Nat.reduceSub, Nat.reduceMul, Nat.reduceBEq, List.map_cons, List.map_nil, List.headD_cons, List.getElem?_cons_zero, List.getElem?_cons_succ, List.set_cons_zero, List.set_cons_succ]
      rw [cnt_2, e1, n_sub (a := 1) (b := N.getD 1 0) (by omega)]
      refine ⟨fun w => absurd rfl w, fun _ => ⟨by decide, by decide, ?_⟩⟩
      refine Ev_use (ev_count0 _ (swapN N) _ S C P _ tl has g 1 okl2.1 (by decide)) ?_
      dsimp only [hN1, hB, wpI, xop, xcall, xli, xlj, xlf, xld, xla, xlg, xst, xst2, xc1, pI, pJ, pF, pD, pR, pA, p1, p0, xpop, xpush, xsm, xhas, xif, xic, xsw, xai, xal, xhi, xhv, xrf, xret, xrtl, xrtf, xrtd, xrta, xrtv, xfit, xnew, cond_true, cond_false, f40, f41, f42, f43, List.length_cons, List.length_nil, Nat.reduceAdd, Nat.reduceSub, Nat.reduceMul, Nat.reduceBEq, List.map_cons, List.map_nil, List.headD_cons, List.getElem?_cons_zero, List.getElem?_cons_succ, List.set_cons_zero, List.set_cons_succ]
      rw [cnt_1, e0, r2]
      refine ⟨fun w => absurd rfl w, fun _ => ?_⟩
      refine Ev_use (ev_mirror _ (swapN N) _ S C P _ tl has g okl2.1 hV2 hs2) ?_
      dsimp only [hN1, hB, wpI, xop, xcall, xli, xlj, xlf, xld, xla, xlg, xst, xst2, xc1, pI, pJ, pF, pD, pR, pA, p1, p0, xpop, xpush, xsm, xhas, xif, xic, xsw, xai, xal, xhi, xhv, xrf, xret, xrtl, xrtf, xrtd, xrta, xrtv, xfit, xnew, cond_true, cond_false, f40, f41, f42, f43, List.length_cons, List.length_nil, Nat.reduceAdd, Nat.reduceSub, Nat.reduceMul, Nat.reduceBEq, List.map_cons, List.map_nil, List.headD_cons, List.getElem?_cons_zero, List.getElem?_cons_succ, List.set_cons_zero, List.set_cons_succ]
      rw [e0, r3]
      refine ⟨fun w => absurd rfl w, fun _ => ⟨by decide, by decide, ?_⟩⟩
      refine Ev_use (ev_count0 _ (swapN (swapN N)) _ S C P _ tl has g 2 okl3.1 (by decide)) ?_
      dsimp only [hN1, hB, wpI, xop, xcall, xli, xlj, xlf, xld, xla, xlg, xst, xst2, xc1, pI, pJ, pF, pD, pR, pA, p1, p0, xpop, xpush, xsm, xhas, xif, xic, xsw, xai, xal, xhi, xhv, xrf, xret, xrtl, xrtf, xrtd, xrta, xrtv, xfit, xnew, cond_true, cond_false, f40, f41, f42, f43, List.length_cons, List.length_nil, Nat.reduceAdd, Nat.reduceSub, Nat.reduceMul, Nat.reduceBEq, List.map_cons, List.map_nil, List.headD_cons, List.getElem?_cons_zero, List.getElem?_cons_succ, List.set_cons_zero, List.set_cons_succ]
      rw [cnt_2, f1]
      refine ⟨fun w => absurd rfl w, fun _ => ?_⟩
      have t24 : ∀ (N2 V2 : List Nat) (s2 : Nat) (L : xL) (c s : Nat), okL (q + 3) N2 → V2.length = 108 → s2 ≤ 6 → c ≤ 120 → s ≤ 12000 → K 24 L [] (hB N2 V2 S C P s2 tl has g) c s := by
        intro N2 V2 s2 L c s ok9 v9 s9 hc hs
        refine hK 24 _ _ _ _ _ _ rfl rfl ?_
        dsimp only [k_Y_acts_24, hN1, hB, wpI, xop, xcall, xli, xlj, xlf, xld, xla, xlg, xst, xst2, xc1, pI, pJ, pF, pD, pR, pA, p1, p0, xpop, xpush, xsm, xhas, xif, xic, xsw, xai, xal, xhi, xhv, xrf, xret, xrtl, xrtf, xrtd, xrta, xrtv, xfit, xnew, cond_true, cond_false, f40, f41, f42, f43, List.length_cons, List.length_nil, Nat.reduceAdd, Nat.reduceSub, Nat.reduceMul, Nat.reduceBEq, List.map_cons, List.map_nil, List.headD_cons, List.getElem?_cons_zero, List.getElem?_cons_succ, List.set_cons_zero, List.set_cons_succ]
        refine hK 26 _ _ _ _ _ _ rfl rfl ?_
        dsimp only [k_Y_acts_26, hN1, hB, wpI, xop, xcall, xli, xlj, xlf, xld, xla, xlg, xst, xst2, xc1, pI, pJ, pF, pD, pR, pA, p1, p0, xpop, xpush, xsm, xhas, xif, xic, xsw, xai, xal, xhi, xhv, xrf, xret, xrtl, xrtf, xrtd, xrta, xrtv, xfit, xnew, cond_true, cond_false, f40, f41, f42, f43, List.length_cons, List.length_nil, Nat.reduceAdd, Nat.reduceSub, Nat.reduceMul, Nat.reduceBEq, List.map_cons, List.map_nil, List.headD_cons, List.getElem?_cons_zero, List.getElem?_cons_succ, List.set_cons_zero, List.set_cons_succ]
        exact ⟨Or.inr rfl, hc, hs, hQ _ _ _ _ _ ok9 v9 s9 gk⟩
      refine hK 23 _ _ _ _ _ _ rfl rfl ?_
      dsimp only [k_Y_acts_23, hN1, hB, wpI, xop, xcall, xli, xlj, xlf, xld, xla, xlg, xst, xst2, xc1, pI, pJ, pF, pD, pR, pA, p1, p0, xpop, xpush, xsm, xhas, xif, xic, xsw, xai, xal, xhi, xhv, xrf, xret, xrtl, xrtf, xrtd, xrta, xrtv, xfit, xnew, cond_true, cond_false, f40, f41, f42, f43, List.length_cons, List.length_nil, Nat.reduceAdd, Nat.reduceSub, Nat.reduceMul, Nat.reduceBEq, List.map_cons, List.map_nil, List.headD_cons, List.getElem?_cons_zero, List.getElem?_cons_succ, List.set_cons_zero, List.set_cons_succ]
      rw [n_sh31 hn (show 4 < 32 by decide), n_rem n4 (show 0 < 3 by decide) (by decide)]
      refine br_f (by decide) ⟨by decide, fun _ => t24 _ _ _ _ _ _ (okL_le okl3 (by omega)) hV3 hs3 (by decide) (by decide), fun _ => ?_⟩
      have g0 : (fillN (swapN (swapN N))).getD 0 0 = 32767 := by
        show (((swapN (swapN N)).set 0 32767).set 1 0).getD 0 0 = _
        rw [gs_ne (by decide), gs_eq (by have := okl3.1.1; omega)]
      have g1 : (fillN (swapN (swapN N))).getD 1 0 = 0 := by
        show (((swapN (swapN N)).set 0 32767).set 1 0).getD 1 0 = _
        exact gs_eq (by rw [List.length_set]; have := okl3.1.1; omega)
      have okl4 := okL_fill okl3
      refine Ev_use (ev_refill _ (swapN (swapN N)) _ S C P _ tl has g okl3.1 hV3 hs3) ?_
      dsimp only [hN1, hB, wpI, xop, xcall, xli, xlj, xlf, xld, xla, xlg, xst, xst2, xc1, pI, pJ, pF, pD, pR, pA, p1, p0, xpop, xpush, xsm, xhas, xif, xic, xsw, xai, xal, xhi, xhv, xrf, xret, xrtl, xrtf, xrtd, xrta, xrtv, xfit, xnew, cond_true, cond_false, f40, f41, f42, f43, List.length_cons, List.length_nil, Nat.reduceAdd, Nat.reduceSub, Nat.reduceMul, Nat.reduceBEq, List.map_cons, List.map_nil, List.headD_cons, List.getElem?_cons_zero, List.getElem?_cons_succ, List.set_cons_zero, List.set_cons_succ]
      rw [f0, n_sub (a := 15) (b := pop (N.getD 0 0)) pm]
      refine ⟨fun w => absurd rfl w, fun _ => ⟨by decide, by decide, ?_⟩⟩
      refine Ev_use (ev_count0 _ (fillN (swapN (swapN N))) _ S C P _ tl has g 1 okl4.1 (by decide)) ?_
      dsimp only [hN1, hB, wpI, xop, xcall, xli, xlj, xlf, xld, xla, xlg, xst, xst2, xc1, pI, pJ, pF, pD, pR, pA, p1, p0, xpop, xpush, xsm, xhas, xif, xic, xsw, xai, xal, xhi, xhv, xrf, xret, xrtl, xrtf, xrtd, xrta, xrtv, xfit, xnew, cond_true, cond_false, f40, f41, f42, f43, List.length_cons, List.length_nil, Nat.reduceAdd, Nat.reduceSub, Nat.reduceMul, Nat.reduceBEq, List.map_cons, List.map_nil, List.headD_cons, List.getElem?_cons_zero, List.getElem?_cons_succ, List.set_cons_zero, List.set_cons_succ]
      rw [cnt_1, g0, pop_full]
      refine ⟨fun w => absurd rfl w, fun _ => ⟨by decide, by decide, ?_⟩⟩
      refine Ev_use (ev_count0 _ (fillN (swapN (swapN N))) _ S C P _ tl has g 2 okl4.1 (by decide)) ?_
      dsimp only [hN1, hB, wpI, xop, xcall, xli, xlj, xlf, xld, xla, xlg, xst, xst2, xc1, pI, pJ, pF, pD, pR, pA, p1, p0, xpop, xpush, xsm, xhas, xif, xic, xsw, xai, xal, xhi, xhv, xrf, xret, xrtl, xrtf, xrtd, xrta, xrtv, xfit, xnew, cond_true, cond_false, f40, f41, f42, f43, List.length_cons, List.length_nil, Nat.reduceAdd, Nat.reduceSub, Nat.reduceMul, Nat.reduceBEq, List.map_cons, List.map_nil, List.headD_cons, List.getElem?_cons_zero, List.getElem?_cons_succ, List.set_cons_zero, List.set_cons_succ]
      rw [cnt_2, g1]
      exact ⟨fun w => absurd rfl w, fun _ => t24 _ _ _ _ _ _ okl4 hV4 hs4 (by decide) (by decide)⟩
    · -- a setting
      obtain ⟨w, ew, hw⟩ : ∃ w, (n >>> 4) % 3 = w ∧ w < 3 := ⟨_, rfl, Nat.mod_lt _ (by decide)⟩
      have t29 : ∀ v : Nat, (w = 0 ∧ 1 ≤ v ∧ v ≤ 3 ∨ (w = 1 ∨ w = 2) ∧ v < 2) → K 29 [some (.ref 0), some (.int (nI n)), some (.int (nI r)), some (.int (nI p)), some (.int (nI (N.getD 0 0))), some (.int (nI (pop (N.getD 0 0)))), some (.int (nI x)), none, none, none, none, none, none, some (.int (nI w)), none, none] [.int (nI v)] (hB N V S C P sv tl has g) 2 12 := by
        intro v hv
        have okl2 := okL_set okl hw (st_set ok hv)
        have ee : (N.set (3 + w) v).getD (3 + w) 0 = v := gs_eq (by omega)
        refine hK 29 _ _ _ _ _ _ rfl rfl ?_
        dsimp only [k_Y_acts_29, hN1, hB, wpI, xop, xcall, xli, xlj, xlf, xld, xla, xlg, xst, xst2, xc1, pI, pJ, pF, pD, pR, pA, p1, p0, xpop, xpush, xsm, xhas, xif, xic, xsw, xai, xal, xhi, xhv, xrf, xret, xrtl, xrtf, xrtd, xrta, xrtv, xfit, xnew, cond_true, cond_false, f40, f41, f42, f43, List.length_cons, List.length_nil, Nat.reduceAdd, Nat.reduceSub, Nat.reduceMul, Nat.reduceBEq, List.map_cons, List.map_nil, List.headD_cons, List.getElem?_cons_zero, List.getElem?_cons_succ, List.set_cons_zero, List.set_cons_succ]
        refine ⟨by decide, by decide, ?_⟩
        refine Ev_use (ev_setting0 _ N _ _ w hN hw) ?_
        dsimp only [hN1, hB, wpI, xop, xcall, xli, xlj, xlf, xld, xla, xlg, xst, xst2, xc1, pI, pJ, pF, pD, pR, pA, p1, p0, xpop, xpush, xsm, xhas, xif, xic, xsw, xai, xal, xhi, xhv, xrf, xret, xrtl, xrtf, xrtd, xrta, xrtv, xfit, xnew, cond_true, cond_false, f40, f41, f42, f43, List.length_cons, List.length_nil, Nat.reduceAdd, Nat.reduceSub, Nat.reduceMul, Nat.reduceBEq, List.map_cons, List.map_nil, List.headD_cons, List.getElem?_cons_zero, List.getElem?_cons_succ, List.set_cons_zero, List.set_cons_succ]
        refine hC (30, 4, 1, 6, false, E_act sc) (List.mem_cons_of_mem _ (List.mem_cons_of_mem _ List.mem_cons_self)) [.ref 0, .int (nI 3), .int (nI w), .int (nI v)] [] _ _ _ _ (fun v' h' => v' = some (.int (nI (N.getD (3 + w) 0))) ∧ h' = hB (N.set (3 + w) v) (saveV N V sv) S C P (saveS sv) tl has g) rfl (by decide) (Nat.le_of_ble_eq_true rfl) (Nat.le_of_ble_eq_true rfl) (fun z => nomatch z) (ac_set N V S C P sv tl has g (nI w) (nI v) hN hV hs6 (fun _ => ?_) (fun y => ?_) (fun y => ?_)) ?_
        · rw [n_cl (by omega), n_cl (by omega)]
          exact ⟨rfl, rfl⟩
        · rw [setE_of hv] at y; exact nomatch y
        · rw [setE_of hv] at y; exact nomatch y
        rintro v' h' ⟨rfl, rfl⟩
        refine hK 31 _ _ _ _ _ _ rfl rfl ?_
        dsimp only [k_Y_acts_31, hN1, hB, wpI, xop, xcall, xli, xlj, xlf, xld, xla, xlg, xst, xst2, xc1, pI, pJ, pF, pD, pR, pA, p1, p0, xpop, xpush, xsm, xhas, xif, xic, xsw, xai, xal, xhi, xhv, xrf, xret, xrtl, xrtf, xrtd, xrta, xrtv, xfit, xnew, cond_true, cond_false, f40, f41, f42, f43, List.length_cons, List.length_nil, Nat.reduceAdd, Nat.reduceSub, Nat.reduceMul, Nat.reduceBEq, List.map_cons, List.map_nil, List.headD_cons, List.getElem?_cons_zero, List.getElem?_cons_succ, List.set_cons_zero, List.set_cons_succ]
        refine ⟨fun y => absurd rfl y, fun _ => ⟨by decide, by decide, ?_⟩⟩
        refine Ev_use (ev_setting0 _ (N.set (3 + w) v) _ _ w okl2.1.1 hw) ?_
        dsimp only [hN1, hB, wpI, xop, xcall, xli, xlj, xlf, xld, xla, xlg, xst, xst2, xc1, pI, pJ, pF, pD, pR, pA, p1, p0, xpop, xpush, xsm, xhas, xif, xic, xsw, xai, xal, xhi, xhv, xrf, xret, xrtl, xrtf, xrtd, xrta, xrtv, xfit, xnew, cond_true, cond_false, f40, f41, f42, f43, List.length_cons, List.length_nil, Nat.reduceAdd, Nat.reduceSub, Nat.reduceMul, Nat.reduceBEq, List.map_cons, List.map_nil, List.headD_cons, List.getElem?_cons_zero, List.getElem?_cons_succ, List.set_cons_zero, List.set_cons_succ]
        rw [ee]
        refine ⟨fun y => absurd rfl y, fun _ => ?_⟩
        refine hK 33 _ _ _ _ _ _ rfl rfl ?_
        dsimp only [k_Y_acts_33, hN1, hB, wpI, xop, xcall, xli, xlj, xlf, xld, xla, xlg, xst, xst2, xc1, pI, pJ, pF, pD, pR, pA, p1, p0, xpop, xpush, xsm, xhas, xif, xic, xsw, xai, xal, xhi, xhv, xrf, xret, xrtl, xrtf, xrtd, xrta, xrtv, xfit, xnew, cond_true, cond_false, f40, f41, f42, f43, List.length_cons, List.length_nil, Nat.reduceAdd, Nat.reduceSub, Nat.reduceMul, Nat.reduceBEq, List.map_cons, List.map_nil, List.headD_cons, List.getElem?_cons_zero, List.getElem?_cons_succ, List.set_cons_zero, List.set_cons_succ]
        exact ⟨Or.inr rfl, by decide, by decide, hQ _ _ _ _ _ (okL_le okl2 (by omega)) hV2 hs2 gk⟩
      refine hK 27 _ _ _ _ _ _ rfl rfl ?_
      dsimp only [k_Y_acts_27, hN1, hB, wpI, xop, xcall, xli, xlj, xlf, xld, xla, xlg, xst, xst2, xc1, pI, pJ, pF, pD, pR, pA, p1, p0, xpop, xpush, xsm, xhas, xif, xic, xsw, xai, xal, xhi, xhv, xrf, xret, xrtl, xrtf, xrtd, xrta, xrtv, xfit, xnew, cond_true, cond_false, f40, f41, f42, f43, List.length_cons, List.length_nil, Nat.reduceAdd, Nat.reduceSub, Nat.reduceMul, Nat.reduceBEq, List.map_cons, List.map_nil, List.headD_cons, List.getElem?_cons_zero, List.getElem?_cons_succ, List.set_cons_zero, List.set_cons_succ]
      rw [n_sh31 hn (show 4 < 32 by decide), n_sh31 hn (show 8 < 32 by decide), n_rem n4 (show 0 < 3 by decide) (by decide), ew, n_rem n8 (show 0 < 3 by decide) (by decide), nI_add 1 (n >>> 8 % 3)]
      have hm3 := Nat.mod_lt (n >>> 8) (show 0 < 3 by decide)
      have hm2 := Nat.mod_lt (n >>> 8) (show 0 < 2 by decide)
      refine ⟨by decide, fun y => ?_, fun y => ?_⟩
      · have y : ¬ w = 0 := fun e => y (by rw [e]; rfl)
        refine hK 28 _ _ _ _ _ _ rfl rfl ?_
        dsimp only [k_Y_acts_28, hN1, hB, wpI, xop, xcall, xli, xlj, xlf, xld, xla, xlg, xst, xst2, xc1, pI, pJ, pF, pD, pR, pA, p1, p0, xpop, xpush, xsm, xhas, xif, xic, xsw, xai, xal, xhi, xhv, xrf, xret, xrtl, xrtf, xrtd, xrta, xrtv, xfit, xnew, cond_true, cond_false, f40, f41, f42, f43, List.length_cons, List.length_nil, Nat.reduceAdd, Nat.reduceSub, Nat.reduceMul, Nat.reduceBEq, List.map_cons, List.map_nil, List.headD_cons, List.getElem?_cons_zero, List.getElem?_cons_succ, List.set_cons_zero, List.set_cons_succ]
        rw [n_sh31 hn (show 8 < 32 by decide), n_rem n8 (show 0 < 2 by decide) (by decide)]
        exact ⟨by decide, t29 _ (Or.inr ⟨by omega, hm2⟩)⟩
      · have y := (n_e0 (by omega)).mp y
        exact ⟨by decide, t29 _ (Or.inl ⟨y, by omega, by omega⟩)⟩
    · -- a theft
      have hm3 := Nat.mod_lt (n >>> 8) (show 0 < 3 by decide)
      refine hK 34 _ _ _ _ _ _ rfl rfl ?_
      dsimp only [k_Y_acts_34, hN1, hB, wpI, xop, xcall, xli, xlj, xlf, xld, xla, xlg, xst, xst2, xc1, pI, pJ, pF, pD, pR, pA, p1, p0, xpop, xpush, xsm, xhas, xif, xic, xsw, xai, xal, xhi, xhv, xrf, xret, xrtl, xrtf, xrtd, xrta, xrtv, xfit, xnew, cond_true, cond_false, f40, f41, f42, f43, List.length_cons, List.length_nil, Nat.reduceAdd, Nat.reduceSub, Nat.reduceMul, Nat.reduceBEq, List.map_cons, List.map_nil, List.headD_cons, List.getElem?_cons_zero, List.getElem?_cons_succ, List.set_cons_zero, List.set_cons_succ]
      rw [n_sh31 hn (show 8 < 32 by decide), n_rem n8 (show 0 < 3 by decide) (by decide), nI_add 1 (n >>> 8 % 3)]
      refine ⟨by decide, ?_⟩
      refine hC (35, 3, 60, 9000, true, E_takes sc) (List.mem_cons_of_mem _ (List.mem_cons_of_mem _ (List.mem_cons_of_mem _ List.mem_cons_self))) [.ref 0, .int (nI r), .int (nI (1 + n >>> 8 % 3))] [] _ _ _ _ (fun v h' => v = some (.int (nI 1)) ∧ ∃ N' V' P' sv' g', okL (q + 1) N' ∧ V'.length = 108 ∧ sv' ≤ 6 ∧ gOk P' g' ∧ h' = hB N' V' S C P' sv' tl has g') rfl (by decide) (Nat.le_of_ble_eq_true rfl) (Nat.le_of_ble_eq_true rfl) (fun _ => ⟨rfl, (by repeat' (first | exact trivial | exact Or.inl (Nat.succ_pos _) | refine ⟨?_, ?_⟩)), (by repeat' (first | exact trivial | exact Or.inl (Nat.succ_pos _) | refine ⟨?_, ?_⟩))⟩) (ey_takes q N V S C P sv tl has g r (1 + n >>> 8 % 3) okl hq9 hV hs6 gk hr (by omega) (by omega) _ (fun N' V' P' sv' g' a b c d => ⟨rfl, N', V', P', sv', g', a, b, c, d, rfl⟩)) ?_
      rintro v h' ⟨rfl, N', V', P', sv', g', k1, k2, k3, k4, rfl⟩
      refine hK 36 _ _ _ _ _ _ rfl rfl ?_
      dsimp only [k_Y_acts_36, hN1, hB, wpI, xop, xcall, xli, xlj, xlf, xld, xla, xlg, xst, xst2, xc1, pI, pJ, pF, pD, pR, pA, p1, p0, xpop, xpush, xsm, xhas, xif, xic, xsw, xai, xal, xhi, xhv, xrf, xret, xrtl, xrtf, xrtd, xrta, xrtv, xfit, xnew, cond_true, cond_false, f40, f41, f42, f43, List.length_cons, List.length_nil, Nat.reduceAdd, Nat.reduceSub, Nat.reduceMul, Nat.reduceBEq, List.map_cons, List.map_nil, List.headD_cons, List.getElem?_cons_zero, List.getElem?_cons_succ, List.set_cons_zero, List.set_cons_succ]
      exact ⟨Or.inr rfl, by decide, by decide, hQ _ _ _ _ _ (okL_le k1 (by omega)) k2 k3 k4⟩
  by_cases z : hasN (N.getD 0 0) r p = true
  · rw [if_pos z] at t2 ⊢
    exact ⟨fun w => absurd rfl w, fun _ => t2 1 rfl⟩
  · rw [if_neg z] at t2 ⊢
    refine ⟨fun _ => ?_, fun w => absurd w (by decide)⟩
    refine hK 1 _ _ _ _ _ _ rfl rfl ?_
    dsimp only [k_Y_acts_1, hN1, hB, wpI, xop, xcall, xli, xlj, xlf, xld, xla, xlg, xst, xst2, xc1, pI, pJ, pF, pD, pR, pA, p1, p0, xpop, xpush, xsm, xhas, xif, xic, xsw, xai, xal, xhi, xhv, xrf, xret, xrtl, xrtf, xrtd, xrta, xrtv, xfit, xnew, cond_true, cond_false, f40, f41, f42, f43, List.length_cons, List.length_nil, Nat.reduceAdd, Nat.reduceSub, Nat.reduceMul, Nat.reduceBEq, List.map_cons, List.map_nil, List.headD_cons, List.getElem?_cons_zero, List.getElem?_cons_succ, List.set_cons_zero, List.set_cons_succ]
    exact t2 0 rfl
