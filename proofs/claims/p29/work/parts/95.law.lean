/-! ===== the law ===== -/
theorem i32_nat (x : Int32) : ∃ a, x = nI a := ⟨x.toBitVec.toNat, by
  apply Int32.toBitVec_inj.mp
  show x.toBitVec = BitVec.ofNat 32 x.toBitVec.toNat
  rw [BitVec.ofNat_toNat]
  simp⟩
theorem and_pos (x : Int32) : ∃ n, n < 2 ^ 31 ∧ x &&& nI 2147483647 = nI n := by
  obtain ⟨a, rfl⟩ := i32_nat x
  exact ⟨a &&& 2147483647, Nat.lt_of_le_of_lt Nat.and_le_right (by decide), n_and a 2147483647⟩
set_option maxRecDepth 100000 in
set_option maxHeartbeats 4000000 in
theorem ey_cell {lst : List Int32} (hl : lst.length ≤ 260) (k : Nat) (hk : k < 100) (h : xH) (Q : Option Value → xH → Prop) (hQ : ∀ n, n < 2 ^ 31 → Q (some (.int (nI n))) h) : E_cell (some lst) [.ref 1001, .int (nI k)] h Q := by
  refine ⟨Nat.le_of_ble_eq_true rfl, ?_⟩
  intro K hK hC
  show K 0 [some (.ref 1001), some (.int (nI k))] [] h 0 0
  have t2 : ∀ x : Int32, K 2 [some (.ref 1001), some (.int (nI k))] [.int x] h 0 0 := by
    intro x
    obtain ⟨n, hn, e⟩ := and_pos x
    refine hK 2 _ _ _ _ _ _ rfl rfl ?_
    dsimp only [k_Y_cell_2, hN1, hB, wpI, xop, xcall, xli, xlj, xlf, xld, xla, xlg, xst, xst2, xc1, pI, pJ, pF, pD, pR, pA, p1, p0, xpop, xpush, xsm, xhas, xif, xic, xsw, xai, xal, xhi, xhv, xrf, xret, xrtl, xrtf, xrtd, xrta, xrtv, xfit, xnew, cond_true, cond_false, f40, f41, f42, f43, List.length_cons, List.length_nil, Nat.reduceAdd, Nat.reduceSub, Nat.reduceMul, Nat.reduceBEq, List.map_cons, List.map_nil, List.headD_cons, List.getElem?_cons_zero, List.getElem?_cons_succ, List.set_cons_zero, List.set_cons_succ]
    rw [e]
    exact ⟨Nat.le_refl _, Nat.le_refl _, hQ n hn⟩
  refine hK 0 _ _ _ _ _ _ rfl rfl ?_
  dsimp only [k_Y_cell_0, hN1, hB, wpI, xop, xcall, xli, xlj, xlf, xld, xla, xlg, xst, xst2, xc1, pI, pJ, pF, pD, pR, pA, p1, p0, xpop, xpush, xsm, xhas, xif, xic, xsw, xai, xal, xhi, xhv, xrf, xret, xrtl, xrtf, xrtd, xrta, xrtv, xfit, xnew, cond_true, cond_false, f40, f41, f42, f43, List.length_cons, List.length_nil, Nat.reduceAdd, Nat.reduceSub, Nat.reduceMul, Nat.reduceBEq, List.map_cons, List.map_nil, List.headD_cons, List.getElem?_cons_zero, List.getElem?_cons_succ, List.set_cons_zero, List.set_cons_succ]
  refine ⟨fun w => ?_, fun w => ⟨?_, t2 _⟩⟩
  · refine hK 1 _ _ _ _ _ _ rfl rfl ?_
    dsimp only [k_Y_cell_1, hN1, hB, wpI, xop, xcall, xli, xlj, xlf, xld, xla, xlg, xst, xst2, xc1, pI, pJ, pF, pD, pR, pA, p1, p0, xpop, xpush, xsm, xhas, xif, xic, xsw, xai, xal, xhi, xhv, xrf, xret, xrtl, xrtf, xrtd, xrta, xrtv, xfit, xnew, cond_true, cond_false, f40, f41, f42, f43, List.length_cons, List.length_nil, Nat.reduceAdd, Nat.reduceSub, Nat.reduceMul, Nat.reduceBEq, List.map_cons, List.map_nil, List.headD_cons, List.getElem?_cons_zero, List.getElem?_cons_succ, List.set_cons_zero, List.set_cons_succ]
    exact t2 _
  · have w : k < lst.length := Nat.not_le.mp fun y => w ((nI_leI (by omega) (by omega)).mpr y)
    exact (n_in (by omega)).mpr w
theorem gOk_0 : gOk (List.replicate 12 .null) [] := by
  refine ⟨rfl, fun i hi => Or.inl ?_, ?_, trivial, ?_⟩
  · match i, hi with
    | 0, _ => rfl
    | 1, _ => rfl
    | 2, _ => rfl
    | 3, _ => rfl
    | 4, _ => rfl
    | 5, _ => rfl
    | 6, _ => rfl
    | 7, _ => rfl
    | 8, _ => rfl
    | 9, _ => rfl
    | 10, _ => rfl
    | 11, _ => rfl
    | n + 12, h => omega
  · exact ⟨trivial, trivial, trivial, trivial, trivial, trivial, trivial, trivial, trivial, trivial, trivial, trivial, trivial⟩
  · show 0 + 4 * 12 ≤ 700
    decide
theorem pyr_0 (N : List Nat) : pyrR N (nI 0) = 132 := by unfold pyrR; rw [if_pos rfl]
theorem pyr_1 (N : List Nat) : pyrR N (nI 1) = cW (plN N) 0 132 0 0 := by unfold pyrR; rw [if_neg (by decide), if_pos rfl]
theorem pyr_2 (N : List Nat) : pyrR N (nI 2) = cW (plN N) 1 132 0 0 := by unfold pyrR; rw [if_neg (by decide), if_neg (by decide), if_pos rfl]
theorem pyr_3 (N : List Nat) : pyrR N (nI 3) = cO (plN N) 132 0 0 := by unfold pyrR; rw [if_neg (by decide), if_neg (by decide), if_neg (by decide)]
theorem pyr_t (N : List Nat) {t : Nat} (ht : t < 2) : pyrR N (nI (1 + t)) = cW (plN N) t 132 0 0 := by
  have : t = 0 ∨ t = 1 := by omega
  rcases this with rfl | rfl
  · exact pyr_1 N
  · exact pyr_2 N
theorem cO_le (T : xTb) : ∀ (j i s : Nat), cO T j i s ≤ s + j
  | 0, _, _ => Nat.le_refl _
  | j + 1, i, s => by
    rw [cO]
    have h := cO_le T j (i + 1) (s + if T.2.1.getD (2 * i) 0 = 0 ∧ T.2.1.getD (2 * i + 1) 0 = 0 then 1 else 0)
    have h2 : (if T.2.1.getD (2 * i) 0 = 0 ∧ T.2.1.getD (2 * i + 1) 0 = 0 then 1 else 0) ≤ 1 := by split <;> decide
    omega
abbrev L6 (x y z : Int32) (a b : Option Value) : xL := [some (.ref 1001), some (.ref 0), some (.int x), some (.int y), a, b]
set_option maxRecDepth 100000 in
set_option maxHeartbeats 4000000 in
theorem law_ev {lst : List Int32} (hl : lst.length ≤ 260) : EvY (some lst) b_law ps_law (cR_law (some lst)) (some .boolean) 6 600172 7300668 true [.ref 1001] [] (fun v _ => v = some (.int 1)) := by
  intro K hK hC
  -- behind the sixteen acts
  have t14 : ∀ (q : Nat) (N V S C : List Nat) (P : List Value) (sv : Nat) (g : xH) (c s : Nat), okL q N → q ≤ 900 → V.length = 108 → S.length = 18 → sv ≤ 6 → gOk P g → c ≤ 100000 → s ≤ 1000000 →
      K 14 [some (.ref 1001), some (.ref 0), some (.int (nI 1)), some (.int (nI 16)), none, none] [] (hB N V S C P sv 0 false g) c s := by
    intro q N V S C P sv g c s okl hq9 hV hS hs6 gk hc hs
    have ok := okl.1
    have hm := okl.2.1
    have ok' := ok
    obtain ⟨hN, h0, h1, h3, h3', h4, h5⟩ := ok'
    have hm0 := shp_lt hm
    have pm := pop_le hm0
    have hW := cW_le (plN N) (N.getD 1 0) 132 0 0
    have hW0 := cW_le (plN N) 0 132 0 0
    have hW1 := cW_le (plN N) 1 132 0 0
    have hO1 : 1 ≤ cO (plN N) 132 0 0 := by rw [plN_e]; exact cO_one (by omega)
    have hO2 := cO_le (plN N) 132 0 0
    have hsym : cW (plN N) 0 132 0 0 = cW (plN N) 1 132 0 0 := by rw [plN_e]; exact cW_sym (by omega)
    refine hK 14 _ _ _ _ _ _ rfl rfl ?_
    dsimp only [k_Y_law_14, hN1, hB, wpI, xop, xcall, xli, xlj, xlf, xld, xla, xlg, xst, xst2, xc1, pI, pJ, pF, pD, pR, pA, p1, p0, xpop, xpush, xsm, xhas, xif, xic, xsw, xai, xal, xhi, xhv, xrf, xret, xrtl, xrtf, xrtd, xrta, xrtv, xfit, xnew, cond_true, cond_false, f40, f41, f42, f43, List.length_cons, List.length_nil, Nat.reduceAdd, Nat.reduceSub, Nat.reduceMul, Nat.reduceBEq, List.map_cons, List.map_nil, List.headD_cons, List.getElem?_cons_zero, List.getElem?_cons_succ, List.set_cons_zero, List.set_cons_succ]
    refine ⟨by omega, by omega, ?_⟩
    refine Ev_use (ev_count0 _ N V S C P sv 0 false g 0 ok (by decide)) ?_
    dsimp only [hN1, hB, wpI, xop, xcall, xli, xlj, xlf, xld, xla, xlg, xst, xst2, xc1, pI, pJ, pF, pD, pR, pA, p1, p0, xpop, xpush, xsm, xhas, xif, xic, xsw, xai, xal, xhi, xhv, xrf, xret, xrtl, xrtf, xrtd, xrta, xrtv, xfit, xnew, cond_true, cond_false, f40, f41, f42, f43, List.length_cons, List.length_nil, Nat.reduceAdd, Nat.reduceSub, Nat.reduceMul, Nat.reduceBEq, List.map_cons, List.map_nil, List.headD_cons, List.getElem?_cons_zero, List.getElem?_cons_succ, List.set_cons_zero, List.set_cons_succ]
    rw [cnt_0]
    refine ⟨by omega, by omega, ?_⟩
    refine Ev_use (ev_count0 _ N V S C P sv 0 false g 2 ok (by decide)) ?_
    dsimp only [hN1, hB, wpI, xop, xcall, xli, xlj, xlf, xld, xla, xlg, xst, xst2, xc1, pI, pJ, pF, pD, pR, pA, p1, p0, xpop, xpush, xsm, xhas, xif, xic, xsw, xai, xal, xhi, xhv, xrf, xret, xrtl, xrtf, xrtd, xrta, xrtv, xfit, xnew, cond_true, cond_false, f40, f41, f42, f43, List.length_cons, List.length_nil, Nat.reduceAdd, Nat.reduceSub, Nat.reduceMul, Nat.reduceBEq, List.map_cons, List.map_nil, List.headD_cons, List.getElem?_cons_zero, List.getElem?_cons_succ, List.set_cons_zero, List.set_cons_succ]
    rw [cnt_2]
    refine ⟨rfl, by omega, by omega, (by repeat' (first | exact trivial | exact Or.inl (Nat.succ_pos _) | exact Or.inr (by decide) | refine ⟨?_, ?_⟩)), (by repeat' (first | exact trivial | exact Or.inl (Nat.succ_pos _) | exact Or.inr (by decide) | refine ⟨?_, ?_⟩)), ?_⟩
    refine Ev_of (ev_wonShare _ N V S C P sv 0 false g ok gk) ?_
    rintro v h' ⟨-, rfl, P1, g1, rfl, gk1, e1, rfl⟩
    dsimp only [hN1, hB, wpI, xop, xcall, xli, xlj, xlf, xld, xla, xlg, xst, xst2, xc1, pI, pJ, pF, pD, pR, pA, p1, p0, xpop, xpush, xsm, xhas, xif, xic, xsw, xai, xal, xhi, xhv, xrf, xret, xrtl, xrtf, xrtd, xrta, xrtv, xfit, xnew, cond_true, cond_false, f40, f41, f42, f43, List.length_cons, List.length_nil, Nat.reduceAdd, Nat.reduceSub, Nat.reduceMul, Nat.reduceBEq, List.map_cons, List.map_nil, List.headD_cons, List.getElem?_cons_zero, List.getElem?_cons_succ, List.set_cons_zero, List.set_cons_succ]
    refine br_f (by decide) ⟨by omega, by omega, ?_⟩
    refine Ev_use (ev_isPyramid q _ N V S C P1 sv 0 false _ okl (by omega)) ?_
    dsimp only [hN1, hB, wpI, xop, xcall, xli, xlj, xlf, xld, xla, xlg, xst, xst2, xc1, pI, pJ, pF, pD, pR, pA, p1, p0, xpop, xpush, xsm, xhas, xif, xic, xsw, xai, xal, xhi, xhv, xrf, xret, xrtl, xrtf, xrtd, xrta, xrtv, xfit, xnew, cond_true, cond_false, f40, f41, f42, f43, List.length_cons, List.length_nil, Nat.reduceAdd, Nat.reduceSub, Nat.reduceMul, Nat.reduceBEq, List.map_cons, List.map_nil, List.headD_cons, List.getElem?_cons_zero, List.getElem?_cons_succ, List.set_cons_zero, List.set_cons_succ]
    refine br_f (by decide) ⟨rfl, by omega, by omega, (by repeat' (first | exact trivial | exact Or.inl (Nat.succ_pos _) | exact Or.inr (by decide) | refine ⟨?_, ?_⟩)), (by repeat' (first | exact trivial | exact Or.inl (Nat.succ_pos _) | exact Or.inr (by decide) | refine ⟨?_, ?_⟩)), ?_⟩
    refine Ev_of (ev_isPlay q _ N V S C P1 sv 0 false _ okl (by omega) gk1) ?_
    rintro v h' ⟨-, rfl, P2, g2, rfl, gk2, e2, rfl⟩
    dsimp only [hN1, hB, wpI, xop, xcall, xli, xlj, xlf, xld, xla, xlg, xst, xst2, xc1, pI, pJ, pF, pD, pR, pA, p1, p0, xpop, xpush, xsm, xhas, xif, xic, xsw, xai, xal, xhi, xhv, xrf, xret, xrtl, xrtf, xrtd, xrta, xrtv, xfit, xnew, cond_true, cond_false, f40, f41, f42, f43, List.length_cons, List.length_nil, Nat.reduceAdd, Nat.reduceSub, Nat.reduceMul, Nat.reduceBEq, List.map_cons, List.map_nil, List.headD_cons, List.getElem?_cons_zero, List.getElem?_cons_succ, List.set_cons_zero, List.set_cons_succ]
    refine br_f (by decide) ?_
    rw [nI_add 1 (N.getD 1 0)]
    refine ⟨rfl, by omega, by omega, (by repeat' (first | exact trivial | exact Or.inl (Nat.succ_pos _) | exact Or.inr (by decide) | refine ⟨?_, ?_⟩)), (by repeat' (first | exact trivial | exact Or.inl (Nat.succ_pos _) | exact Or.inr (by decide) | refine ⟨?_, ?_⟩)), ?_⟩
    refine Ev_of (ev_pyramids0 _ N V S C P2 sv 0 false _ (1 + N.getD 1 0) ok gk2 (by omega)) ?_
    rintro v h' ⟨-, rfl, P3, g3, rfl, gk3, e3, rfl⟩
    rw [pyr_t N h1]
    dsimp only [hN1, hB, wpI, xop, xcall, xli, xlj, xlf, xld, xla, xlg, xst, xst2, xc1, pI, pJ, pF, pD, pR, pA, p1, p0, xpop, xpush, xsm, xhas, xif, xic, xsw, xai, xal, xhi, xhv, xrf, xret, xrtl, xrtf, xrtd, xrta, xrtv, xfit, xnew, cond_true, cond_false, f40, f41, f42, f43, List.length_cons, List.length_nil, Nat.reduceAdd, Nat.reduceSub, Nat.reduceMul, Nat.reduceBEq, List.map_cons, List.map_nil, List.headD_cons, List.getElem?_cons_zero, List.getElem?_cons_succ, List.set_cons_zero, List.set_cons_succ]
    refine ⟨rfl, by omega, by omega, (by repeat' (first | exact trivial | exact Or.inl (Nat.succ_pos _) | exact Or.inr (by decide) | refine ⟨?_, ?_⟩)), (by repeat' (first | exact trivial | exact Or.inl (Nat.succ_pos _) | exact Or.inr (by decide) | refine ⟨?_, ?_⟩)), ?_⟩
    refine Ev_of (ev_pyramids0 _ N V S C P3 sv 0 false _ 0 ok gk3 (by decide)) ?_
    rintro v h' ⟨-, rfl, P4, g4, rfl, gk4, e4, rfl⟩
    rw [pyr_0]
    dsimp only [hN1, hB, wpI, xop, xcall, xli, xlj, xlf, xld, xla, xlg, xst, xst2, xc1, pI, pJ, pF, pD, pR, pA, p1, p0, xpop, xpush, xsm, xhas, xif, xic, xsw, xai, xal, xhi, xhv, xrf, xret, xrtl, xrtf, xrtd, xrta, xrtv, xfit, xnew, cond_true, cond_false, f40, f41, f42, f43, List.length_cons, List.length_nil, Nat.reduceAdd, Nat.reduceSub, Nat.reduceMul, Nat.reduceBEq, List.map_cons, List.map_nil, List.headD_cons, List.getElem?_cons_zero, List.getElem?_cons_succ, List.set_cons_zero, List.set_cons_succ]
    refine ⟨wsF_n (by omega), fun w => absurd (ws_self (k := cW (plN N) (N.getD 1 0) 132 0 0) (by omega)) w, fun _ => ⟨rfl, by omega, by omega, (by repeat' (first | exact trivial | exact Or.inl (Nat.succ_pos _) | exact Or.inr (by decide) | refine ⟨?_, ?_⟩)), (by repeat' (first | exact trivial | exact Or.inl (Nat.succ_pos _) | exact Or.inr (by decide) | refine ⟨?_, ?_⟩)), ?_⟩⟩
    refine Ev_of (ev_pyramids0 _ N V S C P4 sv 0 false _ 1 ok gk4 (by decide)) ?_
    rintro v h' ⟨-, rfl, P5, g5, rfl, gk5, e5, rfl⟩
    rw [pyr_1]
    dsimp only [hN1, hB, wpI, xop, xcall, xli, xlj, xlf, xld, xla, xlg, xst, xst2, xc1, pI, pJ, pF, pD, pR, pA, p1, p0, xpop, xpush, xsm, xhas, xif, xic, xsw, xai, xal, xhi, xhv, xrf, xret, xrtl, xrtf, xrtd, xrta, xrtv, xfit, xnew, cond_true, cond_false, f40, f41, f42, f43, List.length_cons, List.length_nil, Nat.reduceAdd, Nat.reduceSub, Nat.reduceMul, Nat.reduceBEq, List.map_cons, List.map_nil, List.headD_cons, List.getElem?_cons_zero, List.getElem?_cons_succ, List.set_cons_zero, List.set_cons_succ]
    refine ⟨rfl, by omega, by omega, (by repeat' (first | exact trivial | exact Or.inl (Nat.succ_pos _) | exact Or.inr (by decide) | refine ⟨?_, ?_⟩)), (by repeat' (first | exact trivial | exact Or.inl (Nat.succ_pos _) | exact Or.inr (by decide) | refine ⟨?_, ?_⟩)), ?_⟩
    refine Ev_of (ev_pyramids0 _ N V S C P5 sv 0 false _ 2 ok gk5 (by decide)) ?_
    rintro v h' ⟨-, rfl, P6, g6, rfl, gk6, e6, rfl⟩
    rw [pyr_2, hsym]
    dsimp only [hN1, hB, wpI, xop, xcall, xli, xlj, xlf, xld, xla, xlg, xst, xst2, xc1, pI, pJ, pF, pD, pR, pA, p1, p0, xpop, xpush, xsm, xhas, xif, xic, xsw, xai, xal, xhi, xhv, xrf, xret, xrtl, xrtf, xrtd, xrta, xrtv, xfit, xnew, cond_true, cond_false, f40, f41, f42, f43, List.length_cons, List.length_nil, Nat.reduceAdd, Nat.reduceSub, Nat.reduceMul, Nat.reduceBEq, List.map_cons, List.map_nil, List.headD_cons, List.getElem?_cons_zero, List.getElem?_cons_succ, List.set_cons_zero, List.set_cons_succ]
    refine ⟨fun w => absurd rfl w, fun _ => ⟨rfl, by omega, by omega, (by repeat' (first | exact trivial | exact Or.inl (Nat.succ_pos _) | exact Or.inr (by decide) | refine ⟨?_, ?_⟩)), (by repeat' (first | exact trivial | exact Or.inl (Nat.succ_pos _) | exact Or.inr (by decide) | refine ⟨?_, ?_⟩)), ?_⟩⟩
    refine Ev_of (ev_pyramids0 _ N V S C P6 sv 0 false _ 3 ok gk6 (by decide)) ?_
    rintro v h' ⟨-, rfl, P7, g7, rfl, gk7, e7, rfl⟩
    rw [pyr_3]
    dsimp only [hN1, hB, wpI, xop, xcall, xli, xlj, xlf, xld, xla, xlg, xst, xst2, xc1, pI, pJ, pF, pD, pR, pA, p1, p0, xpop, xpush, xsm, xhas, xif, xic, xsw, xai, xal, xhi, xhv, xrf, xret, xrtl, xrtf, xrtd, xrta, xrtv, xfit, xnew, cond_true, cond_false, f40, f41, f42, f43, List.length_cons, List.length_nil, Nat.reduceAdd, Nat.reduceSub, Nat.reduceMul, Nat.reduceBEq, List.map_cons, List.map_nil, List.headD_cons, List.getElem?_cons_zero, List.getElem?_cons_succ, List.set_cons_zero, List.set_cons_succ]
    refine ⟨fun w => absurd ((nI_ltI (by omega) (by decide)).mp w) (by omega), fun _ => ?_⟩
    -- a snapshot brings all back, and undo() that
    have okl2 := okL_fill okl
    have ok2 := okl2.1
    have hV2 := save_len hN hV hs6
    have g1' : (fillN N).getD 1 0 = 0 := by
      show ((N.set 0 32767).set 1 0).getD 1 0 = _
      exact gs_eq (by rw [List.length_set]; omega)
    have ok3 := st_1 ok2 (show 1 < 2 by decide)
    have hV3 := save_len ok2.1 hV2 (saveS_le sv)
    have hV4 := save_len ok3.1 hV3 (saveS_le (saveS sv))
    have m0 : ((fillN N).set 1 1).getD 0 0 = 32767 := by
      rw [gs_ne (by decide)]
      show ((N.set 0 32767).set 1 0).getD 0 0 = _
      rw [gs_ne (by decide), gs_eq (by omega)]
    have m1 : ((fillN N).set 1 1).getD 1 0 = 1 := gs_eq (by have := ok2.1; omega)
    refine hK 16 _ _ _ _ _ _ rfl rfl ?_
    dsimp only [k_Y_law_16, hN1, hB, wpI, xop, xcall, xli, xlj, xlf, xld, xla, xlg, xst, xst2, xc1, pI, pJ, pF, pD, pR, pA, p1, p0, xpop, xpush, xsm, xhas, xif, xic, xsw, xai, xal, xhi, xhv, xrf, xret, xrtl, xrtf, xrtd, xrta, xrtv, xfit, xnew, cond_true, cond_false, f40, f41, f42, f43, List.length_cons, List.length_nil, Nat.reduceAdd, Nat.reduceSub, Nat.reduceMul, Nat.reduceBEq, List.map_cons, List.map_nil, List.headD_cons, List.getElem?_cons_zero, List.getElem?_cons_succ, List.set_cons_zero, List.set_cons_succ]
    refine br_f (by decide) ?_
    refine Ev_use (ev_keep _ N V S C P7 sv 0 false _ hN hS) ?_
    dsimp only [hN1, hB, wpI, xop, xcall, xli, xlj, xlf, xld, xla, xlg, xst, xst2, xc1, pI, pJ, pF, pD, pR, pA, p1, p0, xpop, xpush, xsm, xhas, xif, xic, xsw, xai, xal, xhi, xhv, xrf, xret, xrtl, xrtf, xrtd, xrta, xrtv, xfit, xnew, cond_true, cond_false, f40, f41, f42, f43, List.length_cons, List.length_nil, Nat.reduceAdd, Nat.reduceSub, Nat.reduceMul, Nat.reduceBEq, List.map_cons, List.map_nil, List.headD_cons, List.getElem?_cons_zero, List.getElem?_cons_succ, List.set_cons_zero, List.set_cons_succ]
    refine ⟨fun w => absurd rfl w, fun _ => ?_⟩
    refine Ev_use (ev_refill _ N V N C P7 sv 0 true _ ok hV hs6) ?_
    dsimp only [hN1, hB, wpI, xop, xcall, xli, xlj, xlf, xld, xla, xlg, xst, xst2, xc1, pI, pJ, pF, pD, pR, pA, p1, p0, xpop, xpush, xsm, xhas, xif, xic, xsw, xai, xal, xhi, xhv, xrf, xret, xrtl, xrtf, xrtd, xrta, xrtv, xfit, xnew, cond_true, cond_false, f40, f41, f42, f43, List.length_cons, List.length_nil, Nat.reduceAdd, Nat.reduceSub, Nat.reduceMul, Nat.reduceBEq, List.map_cons, List.map_nil, List.headD_cons, List.getElem?_cons_zero, List.getElem?_cons_succ, List.set_cons_zero, List.set_cons_succ]
    refine ⟨fun w => absurd w (nI_pos (by omega)), fun _ => ?_⟩
    refine hC (17, 4, 1, 6, false, E_act (some lst)) (by simp [cR_law]) [.ref 0, .int (nI 4), .int (nI 1), .int (nI 0)] [] _ _ _ _ (fun v h' => v = some (.int (nI 0)) ∧ h' = hB ((fillN N).set 1 1) (saveV (fillN N) (saveV N V sv) (saveS sv)) N C P7 (saveS (saveS sv)) 0 true (g ++ e1 ++ e2 ++ e3 ++ e4 ++ e5 ++ e6 ++ e7)) rfl (by decide) (show _ + 1 ≤ 600172 by omega) (show _ + 6 ≤ 7300668 by omega) (fun z => nomatch z) (ac_turn (fillN N) _ N C P7 _ 0 true _ (nI 1) (nI 0) ok2 hV2 (saveS_le sv) (fun _ => ?_) (fun w => ?_)) ?_
    · rw [g1']
      exact ⟨rfl, rfl⟩
    · exact absurd w (by decide)
    rintro v h' ⟨rfl, rfl⟩
    refine hK 18 _ _ _ _ _ _ rfl rfl ?_
    dsimp only [k_Y_law_18, hN1, hB, wpI, xop, xcall, xli, xlj, xlf, xld, xla, xlg, xst, xst2, xc1, pI, pJ, pF, pD, pR, pA, p1, p0, xpop, xpush, xsm, xhas, xif, xic, xsw, xai, xal, xhi, xhv, xrf, xret, xrtl, xrtf, xrtd, xrta, xrtv, xfit, xnew, cond_true, cond_false, f40, f41, f42, f43, List.length_cons, List.length_nil, Nat.reduceAdd, Nat.reduceSub, Nat.reduceMul, Nat.reduceBEq, List.map_cons, List.map_nil, List.headD_cons, List.getElem?_cons_zero, List.getElem?_cons_succ, List.set_cons_zero, List.set_cons_succ]
    refine ⟨fun w => absurd rfl w, fun _ => ?_⟩
    refine hC (19, 4, 1, 6, false, E_act (some lst)) (by simp [cR_law]) [.ref 0, .int (nI 5), .int (nI 0), .int (nI 0)] [] _ _ _ _ (fun v h' => v = some (.int (nI (N.getD 0 0))) ∧ h' = hB N (saveV ((fillN N).set 1 1) (saveV (fillN N) (saveV N V sv) (saveS sv)) (saveS (saveS sv))) N C P7 (saveS (saveS (saveS sv))) 0 true (g ++ e1 ++ e2 ++ e3 ++ e4 ++ e5 ++ e6 ++ e7)) rfl (by decide) (show _ + 1 ≤ 600172 by omega) (show _ + 6 ≤ 7300668 by omega) (fun z => nomatch z) (ac_goBack ((fillN N).set 1 1) _ N C P7 _ 0 true _ (nI 0) (nI 0) ok3.1 hV3 hN (saveS_le _) (fun _ => ⟨rfl, rfl⟩) (fun w => ?_)) ?_
    · exact absurd w (by decide)
    rintro v h' ⟨rfl, rfl⟩
    refine hK 20 _ _ _ _ _ _ rfl rfl ?_
    dsimp only [k_Y_law_20, hN1, hB, wpI, xop, xcall, xli, xlj, xlf, xld, xla, xlg, xst, xst2, xc1, pI, pJ, pF, pD, pR, pA, p1, p0, xpop, xpush, xsm, xhas, xif, xic, xsw, xai, xal, xhi, xhv, xrf, xret, xrtl, xrtf, xrtd, xrta, xrtv, xfit, xnew, cond_true, cond_false, f40, f41, f42, f43, List.length_cons, List.length_nil, Nat.reduceAdd, Nat.reduceSub, Nat.reduceMul, Nat.reduceBEq, List.map_cons, List.map_nil, List.headD_cons, List.getElem?_cons_zero, List.getElem?_cons_succ, List.set_cons_zero, List.set_cons_succ]
    refine ⟨fun w => absurd rfl w, fun _ => ⟨by omega, by omega, ?_⟩⟩
    refine Ev_use (ev_count0 _ N _ N C P7 _ 0 true _ 2 ok (by decide)) ?_
    dsimp only [hN1, hB, wpI, xop, xcall, xli, xlj, xlf, xld, xla, xlg, xst, xst2, xc1, pI, pJ, pF, pD, pR, pA, p1, p0, xpop, xpush, xsm, xhas, xif, xic, xsw, xai, xal, xhi, xhv, xrf, xret, xrtl, xrtf, xrtd, xrta, xrtv, xfit, xnew, cond_true, cond_false, f40, f41, f42, f43, List.length_cons, List.length_nil, Nat.reduceAdd, Nat.reduceSub, Nat.reduceMul, Nat.reduceBEq, List.map_cons, List.map_nil, List.headD_cons, List.getElem?_cons_zero, List.getElem?_cons_succ, List.set_cons_zero, List.set_cons_succ]
    rw [cnt_2]
    refine ⟨fun w => absurd rfl w, fun _ => ?_⟩
    have hsv : 0 < saveS (saveS (saveS sv)) := by
      have : ∀ s, 0 < saveS s := fun s => by unfold saveS; split <;> omega
      exact this _
    have hsv6 := saveS_le (saveS (saveS sv))
    have hu : cpyN (saveV ((fillN N).set 1 1) (saveV (fillN N) (saveV N V sv) (saveS sv)) (saveS (saveS sv))) N ((saveS (saveS (saveS sv)) - 1) * 18) 0 18 = (fillN N).set 1 1 := by
      rw [undo_all hV4 hN (by omega), save_new ok3.1 hV3 (saveS_le _)]
    refine hK 22 _ _ _ _ _ _ rfl rfl ?_
    dsimp only [k_Y_law_22, hN1, hB, wpI, xop, xcall, xli, xlj, xlf, xld, xla, xlg, xst, xst2, xc1, pI, pJ, pF, pD, pR, pA, p1, p0, xpop, xpush, xsm, xhas, xif, xic, xsw, xai, xal, xhi, xhv, xrf, xret, xrtl, xrtf, xrtd, xrta, xrtv, xfit, xnew, cond_true, cond_false, f40, f41, f42, f43, List.length_cons, List.length_nil, Nat.reduceAdd, Nat.reduceSub, Nat.reduceMul, Nat.reduceBEq, List.map_cons, List.map_nil, List.headD_cons, List.getElem?_cons_zero, List.getElem?_cons_succ, List.set_cons_zero, List.set_cons_succ]
    refine br_f (by decide) ?_
    refine hC (23, 4, 1, 6, false, E_act (some lst)) (by simp [cR_law]) [.ref 0, .int (nI 6), .int (nI 0), .int (nI 0)] [] _ _ _ _ (fun v h' => v = some (.int (nI (saveS (saveS (saveS sv)) - 1))) ∧ h' = hB ((fillN N).set 1 1) (saveV ((fillN N).set 1 1) (saveV (fillN N) (saveV N V sv) (saveS sv)) (saveS (saveS sv))) N C P7 (saveS (saveS (saveS sv)) - 1) 0 true (g ++ e1 ++ e2 ++ e3 ++ e4 ++ e5 ++ e6 ++ e7)) rfl (by decide) (show _ + 1 ≤ 600172 by omega) (show _ + 6 ≤ 7300668 by omega) (fun z => nomatch z) (ac_undo N _ N C P7 _ 0 true _ (nI 0) (nI 0) hN hV4 (saveS_le _) (fun _ => ?_) (fun w => ?_)) ?_
    · rw [hu]
      exact ⟨rfl, rfl⟩
    · unfold undoE at w
      rw [if_pos hsv] at w
      exact nomatch w
    rintro v h' ⟨rfl, rfl⟩
    refine hK 24 _ _ _ _ _ _ rfl rfl ?_
    dsimp only [k_Y_law_24, hN1, hB, wpI, xop, xcall, xli, xlj, xlf, xld, xla, xlg, xst, xst2, xc1, pI, pJ, pF, pD, pR, pA, p1, p0, xpop, xpush, xsm, xhas, xif, xic, xsw, xai, xal, xhi, xhv, xrf, xret, xrtl, xrtf, xrtd, xrta, xrtv, xfit, xnew, cond_true, cond_false, f40, f41, f42, f43, List.length_cons, List.length_nil, Nat.reduceAdd, Nat.reduceSub, Nat.reduceMul, Nat.reduceBEq, List.map_cons, List.map_nil, List.headD_cons, List.getElem?_cons_zero, List.getElem?_cons_succ, List.set_cons_zero, List.set_cons_succ]
    refine ⟨fun w => absurd w (nI_pos (by omega)), fun _ => ⟨by omega, by omega, ?_⟩⟩
    refine Ev_use (ev_count0 _ ((fillN N).set 1 1) _ N C P7 _ 0 true _ 0 ok3 (by decide)) ?_
    dsimp only [hN1, hB, wpI, xop, xcall, xli, xlj, xlf, xld, xla, xlg, xst, xst2, xc1, pI, pJ, pF, pD, pR, pA, p1, p0, xpop, xpush, xsm, xhas, xif, xic, xsw, xai, xal, xhi, xhv, xrf, xret, xrtl, xrtf, xrtd, xrta, xrtv, xfit, xnew, cond_true, cond_false, f40, f41, f42, f43, List.length_cons, List.length_nil, Nat.reduceAdd, Nat.reduceSub, Nat.reduceMul, Nat.reduceBEq, List.map_cons, List.map_nil, List.headD_cons, List.getElem?_cons_zero, List.getElem?_cons_succ, List.set_cons_zero, List.set_cons_succ]
    rw [cnt_0, m0]
    refine ⟨fun w => absurd rfl w, fun _ => ⟨by omega, by omega, ?_⟩⟩
    refine Ev_use (ev_count0 _ ((fillN N).set 1 1) _ N C P7 _ 0 true _ 2 ok3 (by decide)) ?_
    dsimp only [hN1, hB, wpI, xop, xcall, xli, xlj, xlf, xld, xla, xlg, xst, xst2, xc1, pI, pJ, pF, pD, pR, pA, p1, p0, xpop, xpush, xsm, xhas, xif, xic, xsw, xai, xal, xhi, xhv, xrf, xret, xrtl, xrtf, xrtd, xrta, xrtv, xfit, xnew, cond_true, cond_false, f40, f41, f42, f43, List.length_cons, List.length_nil, Nat.reduceAdd, Nat.reduceSub, Nat.reduceMul, Nat.reduceBEq, List.map_cons, List.map_nil, List.headD_cons, List.getElem?_cons_zero, List.getElem?_cons_succ, List.set_cons_zero, List.set_cons_succ]
    rw [cnt_2, m1]
    refine ⟨fun w => absurd rfl w, fun _ => ?_⟩
    refine hK 26 _ _ _ _ _ _ rfl rfl ?_
    dsimp only [k_Y_law_26, hN1, hB, wpI, xop, xcall, xli, xlj, xlf, xld, xla, xlg, xst, xst2, xc1, pI, pJ, pF, pD, pR, pA, p1, p0, xpop, xpush, xsm, xhas, xif, xic, xsw, xai, xal, xhi, xhv, xrf, xret, xrtl, xrtf, xrtd, xrta, xrtv, xfit, xnew, cond_true, cond_false, f40, f41, f42, f43, List.length_cons, List.length_nil, Nat.reduceAdd, Nat.reduceSub, Nat.reduceMul, Nat.reduceBEq, List.map_cons, List.map_nil, List.headD_cons, List.getElem?_cons_zero, List.getElem?_cons_succ, List.set_cons_zero, List.set_cons_succ]
    exact ⟨Or.inr rfl, by omega, by omega, rfl⟩
  have loop : ∀ (j k q : Nat) (N V S C : List Nat) (P : List Value) (sv : Nat) (g : xH) (c s : Nat), k + j = 16 → okL q N → q ≤ 3 * k → V.length = 108 → S.length = 18 → sv ≤ 6 → gOk P g → c ≤ 100 + 1000 * k → s ≤ 5000 + 40000 * k →
      K 7 [some (.ref 1001), some (.ref 0), some (.int (nI 1)), some (.int (nI k)), none, none] [] (hB N V S C P sv 0 false g) c s := by
    intro j
    induction j with
    | zero =>
      intro k q N V S C P sv g c s hk okl hq9 hV hS hs6 gk hc hs
      obtain rfl : k = 16 := by omega
      refine hK 7 _ _ _ _ _ _ rfl rfl ?_
      dsimp only [k_Y_law_7, hN1, hB, wpI, xop, xcall, xli, xlj, xlf, xld, xla, xlg, xst, xst2, xc1, pI, pJ, pF, pD, pR, pA, p1, p0, xpop, xpush, xsm, xhas, xif, xic, xsw, xai, xal, xhi, xhv, xrf, xret, xrtl, xrtf, xrtd, xrta, xrtv, xfit, xnew, cond_true, cond_false, f40, f41, f42, f43, List.length_cons, List.length_nil, Nat.reduceAdd, Nat.reduceSub, Nat.reduceMul, Nat.reduceBEq, List.map_cons, List.map_nil, List.headD_cons, List.getElem?_cons_zero, List.getElem?_cons_succ, List.set_cons_zero, List.set_cons_succ]
      refine br_t (by decide) ?_
      exact t14 q N V S C P sv g c s okl (by omega) hV hS hs6 gk (by omega) (by omega)
    | succ j ih =>
      intro k q N V S C P sv g c s hk okl hq9 hV hS hs6 gk hc hs
      refine hK 7 _ _ _ _ _ _ rfl rfl ?_
      dsimp only [k_Y_law_7, hN1, hB, wpI, xop, xcall, xli, xlj, xlf, xld, xla, xlg, xst, xst2, xc1, pI, pJ, pF, pD, pR, pA, p1, p0, xpop, xpush, xsm, xhas, xif, xic, xsw, xai, xal, xhi, xhv, xrf, xret, xrtl, xrtf, xrtd, xrta, xrtv, xfit, xnew, cond_true, cond_false, f40, f41, f42, f43, List.length_cons, List.length_nil, Nat.reduceAdd, Nat.reduceSub, Nat.reduceMul, Nat.reduceBEq, List.map_cons, List.map_nil, List.headD_cons, List.getElem?_cons_zero, List.getElem?_cons_succ, List.set_cons_zero, List.set_cons_succ]
      refine ⟨fun w => absurd ((nI_leI (by omega) (by omega)).mp w) (by omega), fun _ => br_f (by decide) ?_⟩
      refine hC (8, 2, 0, 0, false, E_cell (some lst)) (by simp [cR_law]) [.ref 1001, .int (nI k)] [.ref 0] _ _ _ _ (fun v h' => ∃ n, n < 2 ^ 31 ∧ v = some (.int (nI n)) ∧ h' = hB N V S C P sv 0 false g) rfl (by decide) (show c + 0 ≤ 600172 by omega) (show s + 0 ≤ 7300668 by omega) (fun z => nomatch z) (ey_cell hl k (by omega) _ _ (fun n hn => ⟨n, hn, rfl, rfl⟩)) ?_
      rintro v h' ⟨n, hn, rfl, rfl⟩
      refine hC (9, 2, 120, 12000, true, E_acts (some lst)) (by simp [cR_law]) [.ref 0, .int (nI n)] [] _ _ _ _ (fun v h' => v = some (.int (nI 1)) ∧ ∃ N' V' P' sv' g', okL (q + 3) N' ∧ V'.length = 108 ∧ sv' ≤ 6 ∧ gOk P' g' ∧ h' = hB N' V' S C P' sv' 0 false g') rfl (by decide) (show c + 0 + 120 ≤ 600172 by omega) (show s + 0 + 12000 ≤ 7300668 by omega) (fun _ => ⟨rfl, (by repeat' (first | exact trivial | exact Or.inl (Nat.succ_pos _) | exact Or.inr (by decide) | refine ⟨?_, ?_⟩)), (by repeat' (first | exact trivial | exact Or.inl (Nat.succ_pos _) | exact Or.inr (by decide) | refine ⟨?_, ?_⟩))⟩) (ey_acts q N V S C P sv 0 false g n hn okl (by omega) hV hs6 gk _ (fun N' V' P' sv' g' a b c d => ⟨rfl, N', V', P', sv', g', a, b, c, d, rfl⟩)) ?_
      rintro v h' ⟨rfl, N', V', P', sv', g', k1, k2, k3, k4, rfl⟩
      have t11 : ∀ (P2 : List Value) (g2 : xH) (c' s' : Nat), gOk P2 g2 → c' ≤ c + 520 → s' ≤ s + 21600 → K 11 [some (.ref 1001), some (.ref 0), some (.int (nI 1)), some (.int (nI k)), none, none] [] (hB N' V' S C P2 sv' 0 false g2) c' s' := by
        intro P2 g2 c' s' gk2 hc' hs'
        refine hK 11 _ _ _ _ _ _ rfl rfl ?_
        dsimp only [k_Y_law_11, hN1, hB, wpI, xop, xcall, xli, xlj, xlf, xld, xla, xlg, xst, xst2, xc1, pI, pJ, pF, pD, pR, pA, p1, p0, xpop, xpush, xsm, xhas, xif, xic, xsw, xai, xal, xhi, xhv, xrf, xret, xrtl, xrtf, xrtd, xrta, xrtv, xfit, xnew, cond_true, cond_false, f40, f41, f42, f43, List.length_cons, List.length_nil, Nat.reduceAdd, Nat.reduceSub, Nat.reduceMul, Nat.reduceBEq, List.map_cons, List.map_nil, List.headD_cons, List.getElem?_cons_zero, List.getElem?_cons_succ, List.set_cons_zero, List.set_cons_succ]
        refine hK 13 _ _ _ _ _ _ rfl rfl ?_
        dsimp only [k_Y_law_13, hN1, hB, wpI, xop, xcall, xli, xlj, xlf, xld, xla, xlg, xst, xst2, xc1, pI, pJ, pF, pD, pR, pA, p1, p0, xpop, xpush, xsm, xhas, xif, xic, xsw, xai, xal, xhi, xhv, xrf, xret, xrtl, xrtf, xrtd, xrta, xrtv, xfit, xnew, cond_true, cond_false, f40, f41, f42, f43, List.length_cons, List.length_nil, Nat.reduceAdd, Nat.reduceSub, Nat.reduceMul, Nat.reduceBEq, List.map_cons, List.map_nil, List.headD_cons, List.getElem?_cons_zero, List.getElem?_cons_succ, List.set_cons_zero, List.set_cons_succ]
        rw [nI_add k 1]
        exact ih (k + 1) (q + 3) N' V' S C P2 sv' g2 c' s' (by omega) k1 (by omega) k2 hS k3 gk2 (by omega) (by omega)
      refine hK 10 _ _ _ _ _ _ rfl rfl ?_
      dsimp only [k_Y_law_10, hN1, hB, wpI, xop, xcall, xli, xlj, xlf, xld, xla, xlg, xst, xst2, xc1, pI, pJ, pF, pD, pR, pA, p1, p0, xpop, xpush, xsm, xhas, xif, xic, xsw, xai, xal, xhi, xhv, xrf, xret, xrtl, xrtf, xrtd, xrta, xrtv, xfit, xnew, cond_true, cond_false, f40, f41, f42, f43, List.length_cons, List.length_nil, Nat.reduceAdd, Nat.reduceSub, Nat.reduceMul, Nat.reduceBEq, List.map_cons, List.map_nil, List.headD_cons, List.getElem?_cons_zero, List.getElem?_cons_succ, List.set_cons_zero, List.set_cons_succ]
      rw [n_rem (a := k) (d := 5) (by omega) (by decide) (by decide)]
      refine br_f (by decide) ⟨by decide, fun _ => t11 _ _ _ _ k4 (by omega) (by omega), fun _ => ⟨by omega, by omega, ?_⟩⟩
      refine Ev_use (ev_isPyramid (q + 3) _ N' V' S C P' sv' 0 false g' k1 (by omega)) ?_
      dsimp only [hN1, hB, wpI, xop, xcall, xli, xlj, xlf, xld, xla, xlg, xst, xst2, xc1, pI, pJ, pF, pD, pR, pA, p1, p0, xpop, xpush, xsm, xhas, xif, xic, xsw, xai, xal, xhi, xhv, xrf, xret, xrtl, xrtf, xrtd, xrta, xrtv, xfit, xnew, cond_true, cond_false, f40, f41, f42, f43, List.length_cons, List.length_nil, Nat.reduceAdd, Nat.reduceSub, Nat.reduceMul, Nat.reduceBEq, List.map_cons, List.map_nil, List.headD_cons, List.getElem?_cons_zero, List.getElem?_cons_succ, List.set_cons_zero, List.set_cons_succ]
      refine br_f (by decide) ⟨rfl, by omega, by omega, (by repeat' (first | exact trivial | exact Or.inl (Nat.succ_pos _) | exact Or.inr (by decide) | refine ⟨?_, ?_⟩)), (by repeat' (first | exact trivial | exact Or.inl (Nat.succ_pos _) | exact Or.inr (by decide) | refine ⟨?_, ?_⟩)), ?_⟩
      refine Ev_of (ev_isPlay (q + 3) _ N' V' S C P' sv' 0 false g' k1 (by omega) k4) ?_
      rintro v h' ⟨-, rfl, P2, g2, rfl, gk2, e2, rfl⟩
      dsimp only [hN1, hB, wpI, xop, xcall, xli, xlj, xlf, xld, xla, xlg, xst, xst2, xc1, pI, pJ, pF, pD, pR, pA, p1, p0, xpop, xpush, xsm, xhas, xif, xic, xsw, xai, xal, xhi, xhv, xrf, xret, xrtl, xrtf, xrtd, xrta, xrtv, xfit, xnew, cond_true, cond_false, f40, f41, f42, f43, List.length_cons, List.length_nil, Nat.reduceAdd, Nat.reduceSub, Nat.reduceMul, Nat.reduceBEq, List.map_cons, List.map_nil, List.headD_cons, List.getElem?_cons_zero, List.getElem?_cons_succ, List.set_cons_zero, List.set_cons_succ]
      exact br_f (by decide) (t11 _ _ _ _ gk2 (by omega) (by omega))
  refine hK 0 _ _ _ _ _ _ rfl rfl ?_
  dsimp only [k_Y_law_0, hN1, hB, wpI, xop, xcall, xli, xlj, xlf, xld, xla, xlg, xst, xst2, xc1, pI, pJ, pF, pD, pR, pA, p1, p0, xpop, xpush, xsm, xhas, xif, xic, xsw, xai, xal, xhi, xhv, xrf, xret, xrtl, xrtf, xrtd, xrta, xrtv, xfit, xnew, cond_true, cond_false, f40, f41, f42, f43, List.length_cons, List.length_nil, Nat.reduceAdd, Nat.reduceSub, Nat.reduceMul, Nat.reduceBEq, List.map_cons, List.map_nil, List.headD_cons, List.getElem?_cons_zero, List.getElem?_cons_succ, List.set_cons_zero, List.set_cons_succ]
  refine ⟨rfl, by decide, by decide, by decide, ⟨Or.inr (by decide), trivial⟩, trivial, trivial, rfl, by decide, by decide, ⟨Or.inr (by decide), trivial⟩, ⟨Or.inl (by decide), trivial⟩, ?_⟩
  refine Ev_use (ev_B_init 11) ?_
  dsimp only [List.cons_append, List.nil_append, hN1, hB, wpI, xop, xcall, xli, xlj, xlf, xld, xla, xlg, xst, xst2, xc1, pI, pJ, pF, pD, pR, pA, p1, p0, xpop, xpush, xsm, xhas, xif, xic, xsw, xai, xal, xhi, xhv, xrf, xret, xrtl, xrtf, xrtd, xrta, xrtv, xfit, xnew, cond_true, cond_false, f40, f41, f42, f43, List.length_cons, List.length_nil, Nat.reduceAdd, Nat.reduceSub, Nat.reduceMul, Nat.reduceBEq, List.map_cons, List.map_nil, List.headD_cons, List.getElem?_cons_zero, List.getElem?_cons_succ, List.set_cons_zero, List.set_cons_succ]
  have ok0 := okL_00
  have e9 : (xdef 1).length = 9 := rfl
  have z0 : N00.getD 0 0 = 32767 := rfl
  have zb : brkS N00 5 0 0 = 0 := rfl
  rw [e9]
  refine ⟨by decide, by decide, ?_⟩
  refine Ev_use (ev_count0 _ N00 (List.replicate 108 0) (List.replicate 18 0) (List.replicate 60 0) (List.replicate 12 .null) 0 0 false [] 0 ok0.1 (by decide)) ?_
  dsimp only [hN1, hB, wpI, xop, xcall, xli, xlj, xlf, xld, xla, xlg, xst, xst2, xc1, pI, pJ, pF, pD, pR, pA, p1, p0, xpop, xpush, xsm, xhas, xif, xic, xsw, xai, xal, xhi, xhv, xrf, xret, xrtl, xrtf, xrtd, xrta, xrtv, xfit, xnew, cond_true, cond_false, f40, f41, f42, f43, List.length_cons, List.length_nil, Nat.reduceAdd, Nat.reduceSub, Nat.reduceMul, Nat.reduceBEq, List.map_cons, List.map_nil, List.headD_cons, List.getElem?_cons_zero, List.getElem?_cons_succ, List.set_cons_zero, List.set_cons_succ]
  rw [cnt_0, z0]
  refine ⟨fun w => absurd rfl w, fun _ => ?_⟩
  refine hC (1, 4, 1, 6, false, E_act (some lst)) (by simp [cR_law]) [.ref 0, .int (nI 5), .int (nI 0), .int (nI 0)] [] _ _ _ _ (fun v h' => v = some (.int (-103)) ∧ h' = hB N00 (List.replicate 108 0) (List.replicate 18 0) (List.replicate 60 0) (List.replicate 12 .null) 0 0 false []) rfl (by decide) (Nat.le_of_ble_eq_true rfl) (Nat.le_of_ble_eq_true rfl) (fun z => nomatch z) (ac_goBack N00 _ _ _ _ 0 0 false _ (nI 0) (nI 0) rfl List.length_replicate List.length_replicate (by decide) (fun w => absurd w (by decide)) (fun _ => ⟨rfl, rfl⟩)) ?_
  rintro v h' ⟨rfl, rfl⟩
  refine hK 2 _ _ _ _ _ _ rfl rfl ?_
  dsimp only [k_Y_law_2, hN1, hB, wpI, xop, xcall, xli, xlj, xlf, xld, xla, xlg, xst, xst2, xc1, pI, pJ, pF, pD, pR, pA, p1, p0, xpop, xpush, xsm, xhas, xif, xic, xsw, xai, xal, xhi, xhv, xrf, xret, xrtl, xrtf, xrtd, xrta, xrtv, xfit, xnew, cond_true, cond_false, f40, f41, f42, f43, List.length_cons, List.length_nil, Nat.reduceAdd, Nat.reduceSub, Nat.reduceMul, Nat.reduceBEq, List.map_cons, List.map_nil, List.headD_cons, List.getElem?_cons_zero, List.getElem?_cons_succ, List.set_cons_zero, List.set_cons_succ]
  refine ⟨fun w => absurd rfl w, fun _ => ?_⟩
  refine hC (3, 4, 1, 6, false, E_act (some lst)) (by simp [cR_law]) [.ref 0, .int (nI 6), .int (nI 0), .int (nI 0)] [] _ _ _ _ (fun v h' => v = some (.int (-103)) ∧ h' = hB N00 (List.replicate 108 0) (List.replicate 18 0) (List.replicate 60 0) (List.replicate 12 .null) 0 0 false []) rfl (by decide) (Nat.le_of_ble_eq_true rfl) (Nat.le_of_ble_eq_true rfl) (fun z => nomatch z) (ac_undo N00 _ _ _ _ 0 0 false _ (nI 0) (nI 0) rfl List.length_replicate (by decide) (fun w => absurd w (by decide)) (fun _ => ⟨rfl, rfl⟩)) ?_
  rintro v h' ⟨rfl, rfl⟩
  refine hK 4 _ _ _ _ _ _ rfl rfl ?_
  dsimp only [k_Y_law_4, hN1, hB, wpI, xop, xcall, xli, xlj, xlf, xld, xla, xlg, xst, xst2, xc1, pI, pJ, pF, pD, pR, pA, p1, p0, xpop, xpush, xsm, xhas, xif, xic, xsw, xai, xal, xhi, xhv, xrf, xret, xrtl, xrtf, xrtd, xrta, xrtv, xfit, xnew, cond_true, cond_false, f40, f41, f42, f43, List.length_cons, List.length_nil, Nat.reduceAdd, Nat.reduceSub, Nat.reduceMul, Nat.reduceBEq, List.map_cons, List.map_nil, List.headD_cons, List.getElem?_cons_zero, List.getElem?_cons_succ, List.set_cons_zero, List.set_cons_succ]
  refine ⟨fun w => absurd rfl w, fun _ => ⟨rfl, by decide, by decide, (by repeat' (first | exact trivial | exact Or.inl (Nat.succ_pos _) | exact Or.inr (by decide) | refine ⟨?_, ?_⟩)), (by repeat' (first | exact trivial | exact Or.inl (Nat.succ_pos _) | exact Or.inr (by decide) | refine ⟨?_, ?_⟩)), ?_⟩⟩
  refine Ev_of (ev_pyramids0 _ N00 _ _ _ _ 0 0 false _ 0 ok0.1 gOk_0 (by decide)) ?_
  rintro v h' ⟨-, rfl, P1, g1, rfl, gk1, e1, rfl⟩
  rw [pyr_0]
  dsimp only [hN1, hB, wpI, xop, xcall, xli, xlj, xlf, xld, xla, xlg, xst, xst2, xc1, pI, pJ, pF, pD, pR, pA, p1, p0, xpop, xpush, xsm, xhas, xif, xic, xsw, xai, xal, xhi, xhv, xrf, xret, xrtl, xrtf, xrtd, xrta, xrtv, xfit, xnew, cond_true, cond_false, f40, f41, f42, f43, List.length_cons, List.length_nil, Nat.reduceAdd, Nat.reduceSub, Nat.reduceMul, Nat.reduceBEq, List.map_cons, List.map_nil, List.headD_cons, List.getElem?_cons_zero, List.getElem?_cons_succ, List.set_cons_zero, List.set_cons_succ]
  refine ⟨fun w => absurd rfl w, fun _ => ?_⟩
  refine Ev_use (ev_brokenShare _ N00 _ _ ok0.1.1) ?_
  dsimp only [hN1, hB, wpI, xop, xcall, xli, xlj, xlf, xld, xla, xlg, xst, xst2, xc1, pI, pJ, pF, pD, pR, pA, p1, p0, xpop, xpush, xsm, xhas, xif, xic, xsw, xai, xal, xhi, xhv, xrf, xret, xrtl, xrtf, xrtd, xrta, xrtv, xfit, xnew, cond_true, cond_false, f40, f41, f42, f43, List.length_cons, List.length_nil, Nat.reduceAdd, Nat.reduceSub, Nat.reduceMul, Nat.reduceBEq, List.map_cons, List.map_nil, List.headD_cons, List.getElem?_cons_zero, List.getElem?_cons_succ, List.set_cons_zero, List.set_cons_succ]
  have b0 := bs_0 (b := brkS N00 5 0 0) (g := brkS N00 5 0 0 + N00.getD 16 0 + N00.getD 17 0) (by omega) (by decide)
  refine ⟨fun w => absurd (b0.mpr zb) w, fun _ => ?_⟩
  refine hK 6 _ _ _ _ _ _ rfl rfl ?_
  dsimp only [k_Y_law_6, hN1, hB, wpI, xop, xcall, xli, xlj, xlf, xld, xla, xlg, xst, xst2, xc1, pI, pJ, pF, pD, pR, pA, p1, p0, xpop, xpush, xsm, xhas, xif, xic, xsw, xai, xal, xhi, xhv, xrf, xret, xrtl, xrtf, xrtd, xrta, xrtv, xfit, xnew, cond_true, cond_false, f40, f41, f42, f43, List.length_cons, List.length_nil, Nat.reduceAdd, Nat.reduceSub, Nat.reduceMul, Nat.reduceBEq, List.map_cons, List.map_nil, List.headD_cons, List.getElem?_cons_zero, List.getElem?_cons_succ, List.set_cons_zero, List.set_cons_succ]
  exact loop 16 0 0 N00 _ _ _ P1 0 _ _ _ rfl ok0 (by decide) List.length_replicate List.length_replicate (by decide) gk1 (by decide) (by decide)
