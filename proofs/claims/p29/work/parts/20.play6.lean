/-! ===== a Play is made ===== -/
theorem g_0 (h0 : xH) (c : xC) (l : xH) : (h0 ++ c :: l)[h0.length]? = some c := get_a h0 (c :: l) 0
theorem s_0 (h0 : xH) (c c' : xC) (l : xH) : (h0 ++ c :: l).set h0.length c' = h0 ++ c' :: l := set_a h0 (c :: l) c' 0
theorem wfv_le {n m : Nat} (h : n ≤ m) {v : Value} (w : wfv n v) : wfv m v := by
  cases v with
  | ref a => exact w.elim (fun x => Or.inl (Nat.lt_of_lt_of_le x h)) Or.inr
  | _ => exact trivial
theorem xwS_le {n m : Nat} (h : n ≤ m) : ∀ {l : List Value}, xwS n l → xwS m l
  | [], _ => trivial
  | _ :: _, w => ⟨wfv_le h w.1, xwS_le h w.2⟩
theorem xwH_le {n m : Nat} (h : n ≤ m) : ∀ {l : xH}, xwH n l → xwH m l
  | [], _ => trivial
  | _ :: _, w => ⟨xwS_le h w.1, xwH_le h w.2⟩
theorem xwH_app {n : Nat} : ∀ {l k : xH}, xwH n l → xwH n k → xwH n (l ++ k)
  | [], _, _, w => w
  | _ :: _, _, w, v => ⟨w.1, xwH_app w.2 v⟩
def plL (most : Nat) (bar wo : Bool) : Nat → Nat → xTb → xTb
  | 0, _, T => T
  | j + 1, i, T => plL most bar wo j (i + 1) (poT (poT T bar wo most 0 i) bar wo most 1 i)
def T00 : xTb := (List.replicate 264 false, List.replicate 264 0, List.replicate 264 0)
def plT (most : Nat) (bar wo : Bool) : xTb := plL most bar wo 132 0 T00
theorem plL_ok (most : Nat) (bar wo : Bool) : ∀ (j i B : Nat) (T : xTb), tb3 T → tbB T B → tb3 (plL most bar wo j i T) ∧ tbB (plL most bar wo j i T) (B + 2 * j)
  | 0, _, _, _, n, hT => ⟨n, hT⟩
  | j + 1, i, B, T, n, hT => by
    have h := plL_ok most bar wo j (i + 1) (B + 1 + 1) _ (poT_n (poT_n (bar := bar) (wo := wo) (most := most) (t := 0) (i := i) n) (bar := bar) (wo := wo) (most := most) (t := 1) (i := i)) (poT_le (poT_le hT))
    refine ⟨h.1, ?_⟩
    have e : B + 2 * (j + 1) = B + 1 + 1 + 2 * j := by omega
    rw [e]
    exact h.2
theorem rep_le (n i : Nat) : (List.replicate n 0).getD i 0 ≤ 0 := by
  rw [List.getD_eq_getElem?_getD, List.getElem?_replicate]
  split <;> exact Nat.le_refl _
theorem T00_3 : tb3 T00 := ⟨List.length_replicate, List.length_replicate, List.length_replicate⟩
theorem T00_B : tbB T00 0 := ⟨rep_le _, rep_le _⟩
theorem plT_3 (most : Nat) (bar wo : Bool) : tb3 (plT most bar wo) := (plL_ok most bar wo 132 0 0 T00 T00_3 T00_B).1
theorem plT_B (most : Nat) (bar wo : Bool) : tbB (plT most bar wo) 264 := (plL_ok most bar wo 132 0 0 T00 T00_3 T00_B).2
theorem wr {n a : Nat} (h : a < n) : wfv n (.ref a) := Or.inl h
set_option maxRecDepth 100000 in
set_option maxHeartbeats 4000000 in
theorem ev_L_init (d a most : Nat) (bar wo : Bool) (h0 : xH) (ha : h0[a]? = some (0, shapesN.map nI, [])) (hl : h0.length < 900) (hw : xwH h0.length h0) (hm : most < 50) :
    Ev xT (d + 4) N_L_init [.ref h0.length, .ref a, .int (nI most), .int (bI bar), .int (bI wo)] (h0 ++ [(5, [], [.null, .int 0, .int 0, .int 0, .null, .null, .null])]) (Rt none (hP h0 a most bar wo (plT most bar wo))) NX := by
  refine Ev_intro t_L_init (Nat.le_of_ble_eq_true rfl) ?_
  intro Q X hQ hX K hK
  show K 0 [some (.ref h0.length), some (.ref a), some (.int (nI most)), some (.int (bI bar)), some (.int (bI wo)), none] [] _ 0 0
  have hq := hQ _ _ ⟨rfl, rfl⟩
  have hal : a < h0.length := (List.getElem?_eq_some_iff.mp ha).1
  have hat : ∀ l, (h0 ++ l)[a]? = some (0, shapesN.map nI, []) := fun l => by rw [List.getElem?_append_left hal]; exact ha
  have loop : ∀ (j i : Nat) (T : xTb), i + j = 132 → tb3 T → tbB T (2 * i) → ∀ c s, c ≤ 3 → s ≤ 792 → Q none (hP h0 a most bar wo (plL most bar wo j i T)) →
      K 1 [some (.ref h0.length), some (.ref a), some (.int (nI most)), some (.int (bI bar)), some (.int (bI wo)), some (.int (nI i))] [] (hP h0 a most bar wo T) c s := by
    intro j
    induction j with
    | zero =>
      intro i T hi n hT c s hc hs hq
      have pl := hP_A (most := most) (bar := bar) (wo := wo) ha hl n
      refine hK 1 _ _ _ _ _ _ _ _ rfl ?_
      dsimp only [k_L_init_1, wpI, xop, xcall, xli, xlj, xlf, xld, xla, xlg, xst, xst2, xc1, pI, pJ, pF, pD, pR, pA, p1, p0, xpop, xpush, xsm, xhas, xif, xic, xsw, xrf, xret, xrtl, xrtf, xrtd, xrta, xrtv, xfit, xnew, cond_true, cond_false, f40, f41, f42, f43, List.length_cons, List.length_nil, Nat.reduceAdd, Nat.reduceSub, Nat.reduceMul, Nat.reduceBEq, List.map_cons, List.map_nil, List.headD_cons, List.getElem?_cons_zero, List.getElem?_cons_succ, List.set_cons_zero, List.set_cons_succ]
      refine xal_of pl.la pl.shp ?_
      rw [List.length_map, shapes_len]
      try simp (disch := omega) only [nI_add, n_and, n_or, n_xor, n_i31, nI_leI, nI_ltI, n_e0, n_eq, n_m1e, n_l0, n_g0, n_p0, n_q0, n_cl, n_in, n_sub, n_shr, n_shl, n_div, bI_0, n_01, n_11, bI_or, not_false_eq_true, forall_const, not_true_eq_false, false_imp_iff, true_imp_iff]
      refine br_t (by omega) ?_
      refine hK 2 _ _ _ _ _ _ _ _ rfl ?_
      dsimp only [k_L_init_2, wpI, xop, xcall, xli, xlj, xlf, xld, xla, xlg, xst, xst2, xc1, pI, pJ, pF, pD, pR, pA, p1, p0, xpop, xpush, xsm, xhas, xif, xic, xsw, xrf, xret, xrtl, xrtf, xrtd, xrta, xrtv, xfit, xnew, cond_true, cond_false, f40, f41, f42, f43, List.length_cons, List.length_nil, Nat.reduceAdd, Nat.reduceSub, Nat.reduceMul, Nat.reduceBEq, List.map_cons, List.map_nil, List.headD_cons, List.getElem?_cons_zero, List.getElem?_cons_succ, List.set_cons_zero, List.set_cons_succ]
      exact ⟨hc, hs, hq⟩
    | succ j ih =>
      intro i T hi n hT c s hc hs hq
      rw [plL] at hq
      have pl := hP_A (most := most) (bar := bar) (wo := wo) ha hl n
      have n1 := poT_n (bar := bar) (wo := wo) (most := most) (t := 0) (i := i) n
      have hT1 := poT_le (bar := bar) (wo := wo) (most := most) (t := 0) (i := i) hT
      have p1 := hP_A (most := most) (bar := bar) (wo := wo) ha hl n1
      refine hK 1 _ _ _ _ _ _ _ _ rfl ?_
      dsimp only [k_L_init_1, wpI, xop, xcall, xli, xlj, xlf, xld, xla, xlg, xst, xst2, xc1, pI, pJ, pF, pD, pR, pA, p1, p0, xpop, xpush, xsm, xhas, xif, xic, xsw, xrf, xret, xrtl, xrtf, xrtd, xrta, xrtv, xfit, xnew, cond_true, cond_false, f40, f41, f42, f43, List.length_cons, List.length_nil, Nat.reduceAdd, Nat.reduceSub, Nat.reduceMul, Nat.reduceBEq, List.map_cons, List.map_nil, List.headD_cons, List.getElem?_cons_zero, List.getElem?_cons_succ, List.set_cons_zero, List.set_cons_succ]
      refine xal_of pl.la pl.shp ?_
      rw [List.length_map, shapes_len]
      try simp (disch := omega) only [nI_add, n_and, n_or, n_xor, n_i31, nI_leI, nI_ltI, n_e0, n_eq, n_m1e, n_l0, n_g0, n_p0, n_q0, n_cl, n_in, n_sub, n_shr, n_shl, n_div, bI_0, n_01, n_11, bI_or, not_false_eq_true, forall_const, not_true_eq_false, false_imp_iff, true_imp_iff]
      refine br_f (by omega) ?_
      refine xhv_of pl.obj ?_
      refine Ev_use (ev_playOut _ a most 0 i (2 * i) bar wo T h0 ha hl n hT (by omega) hm (by decide) (by omega)) ?_
      dsimp only [wpI, xop, xcall, xli, xlj, xlf, xld, xla, xlg, xst, xst2, xc1, pI, pJ, pF, pD, pR, pA, p1, p0, xpop, xpush, xsm, xhas, xif, xic, xsw, xrf, xret, xrtl, xrtf, xrtd, xrta, xrtv, xfit, xnew, cond_true, cond_false, f40, f41, f42, f43, List.length_cons, List.length_nil, Nat.reduceAdd, Nat.reduceSub, Nat.reduceMul, Nat.reduceBEq, List.map_cons, List.map_nil, List.headD_cons, List.getElem?_cons_zero, List.getElem?_cons_succ, List.set_cons_zero, List.set_cons_succ]
      refine xhv_of p1.obj ?_
      refine Ev_use (ev_playOut _ a most 1 i (2 * i + 1) bar wo _ h0 ha hl n1 hT1 (by omega) hm (by decide) (by omega)) ?_
      dsimp only [wpI, xop, xcall, xli, xlj, xlf, xld, xla, xlg, xst, xst2, xc1, pI, pJ, pF, pD, pR, pA, p1, p0, xpop, xpush, xsm, xhas, xif, xic, xsw, xrf, xret, xrtl, xrtf, xrtd, xrta, xrtv, xfit, xnew, cond_true, cond_false, f40, f41, f42, f43, List.length_cons, List.length_nil, Nat.reduceAdd, Nat.reduceSub, Nat.reduceMul, Nat.reduceBEq, List.map_cons, List.map_nil, List.headD_cons, List.getElem?_cons_zero, List.getElem?_cons_succ, List.set_cons_zero, List.set_cons_succ]
      try simp (disch := omega) only [nI_add, n_and, n_or, n_xor, n_i31, nI_leI, nI_ltI, n_e0, n_eq, n_m1e, n_l0, n_g0, n_p0, n_q0, n_cl, n_in, n_sub, n_shr, n_shl, n_div, bI_0, n_01, n_11, bI_or, not_false_eq_true, forall_const, not_true_eq_false, false_imp_iff, true_imp_iff]
      exact ih (i + 1) _ (by omega) (poT_n n1) (poT_le hT1) c s hc hs hq
  have e264 : (nI (2 * 132)).toNatClampNeg = 264 := by decide +kernel
  have t264 : nI 2 * nI 132 = nI (2 * 132) := pk_mul _ _
  refine hK 0 _ _ _ _ _ _ _ _ rfl ?_
  dsimp only [k_L_init_0, wpI, xop, xcall, xli, xlj, xlf, xld, xla, xlg, xst, xst2, xc1, pI, pJ, pF, pD, pR, pA, p1, p0, xpop, xpush, xsm, xhas, xif, xic, xsw, xrf, xret, xrtl, xrtf, xrtd, xrta, xrtv, xfit, xnew, cond_true, cond_false, f40, f41, f42, f43, List.length_cons, List.length_nil, Nat.reduceAdd, Nat.reduceSub, Nat.reduceMul, Nat.reduceBEq, List.map_cons, List.map_nil, List.headD_cons, List.getElem?_cons_zero, List.getElem?_cons_succ, List.set_cons_zero, List.set_cons_succ]
  refine xhv_of (g_0 _ _ _) ?_
  rw [s_0]
  dsimp only [wpI, xop, xcall, xli, xlj, xlf, xld, xla, xlg, xst, xst2, xc1, pI, pJ, pF, pD, pR, pA, p1, p0, xpop, xpush, xsm, xhas, xif, xic, xsw, xrf, xret, xrtl, xrtf, xrtd, xrta, xrtv, xfit, xnew, cond_true, cond_false, f40, f41, f42, f43, List.length_cons, List.length_nil, Nat.reduceAdd, Nat.reduceSub, Nat.reduceMul, Nat.reduceBEq, List.map_cons, List.map_nil, List.headD_cons, List.getElem?_cons_zero, List.getElem?_cons_succ, List.set_cons_zero, List.set_cons_succ]
  refine xhv_of (g_0 _ _ _) ?_
  rw [s_0]
  dsimp only [wpI, xop, xcall, xli, xlj, xlf, xld, xla, xlg, xst, xst2, xc1, pI, pJ, pF, pD, pR, pA, p1, p0, xpop, xpush, xsm, xhas, xif, xic, xsw, xrf, xret, xrtl, xrtf, xrtd, xrta, xrtv, xfit, xnew, cond_true, cond_false, f40, f41, f42, f43, List.length_cons, List.length_nil, Nat.reduceAdd, Nat.reduceSub, Nat.reduceMul, Nat.reduceBEq, List.map_cons, List.map_nil, List.headD_cons, List.getElem?_cons_zero, List.getElem?_cons_succ, List.set_cons_zero, List.set_cons_succ]
  refine xhv_of (g_0 _ _ _) ?_
  rw [s_0]
  dsimp only [wpI, xop, xcall, xli, xlj, xlf, xld, xla, xlg, xst, xst2, xc1, pI, pJ, pF, pD, pR, pA, p1, p0, xpop, xpush, xsm, xhas, xif, xic, xsw, xrf, xret, xrtl, xrtf, xrtd, xrta, xrtv, xfit, xnew, cond_true, cond_false, f40, f41, f42, f43, List.length_cons, List.length_nil, Nat.reduceAdd, Nat.reduceSub, Nat.reduceMul, Nat.reduceBEq, List.map_cons, List.map_nil, List.headD_cons, List.getElem?_cons_zero, List.getElem?_cons_succ, List.set_cons_zero, List.set_cons_succ]
  refine ⟨bI_01 _, ?_⟩
  refine xhv_of (g_0 _ _ _) ?_
  rw [s_0]
  dsimp only [wpI, xop, xcall, xli, xlj, xlf, xld, xla, xlg, xst, xst2, xc1, pI, pJ, pF, pD, pR, pA, p1, p0, xpop, xpush, xsm, xhas, xif, xic, xsw, xrf, xret, xrtl, xrtf, xrtd, xrta, xrtv, xfit, xnew, cond_true, cond_false, f40, f41, f42, f43, List.length_cons, List.length_nil, Nat.reduceAdd, Nat.reduceSub, Nat.reduceMul, Nat.reduceBEq, List.map_cons, List.map_nil, List.headD_cons, List.getElem?_cons_zero, List.getElem?_cons_succ, List.set_cons_zero, List.set_cons_succ]
  refine ⟨bI_01 _, ?_⟩
  refine xal_of (by omega) (hat _) ?_
  rw [List.length_map, shapes_len, pk_mul]
  simp only [List.length_append, List.length_cons, List.length_nil, List.append_assoc, List.cons_append, List.nil_append, e264, Nat.zero_add]
  try dsimp only [xtag]
  refine ⟨by decide, by decide, trivial, by decide, by decide, by omega, ⟨wr (by omega), wr (by omega), trivial, trivial, trivial, trivial⟩, ⟨wr (by omega), trivial⟩,
    xwH_app (xwH_le (Nat.le_succ _) hw) ⟨⟨wr (by omega), trivial, trivial, trivial, trivial, trivial, trivial, trivial⟩, trivial⟩, ?_⟩
  refine xhv_of (g_0 _ _ _) ?_
  rw [s_0]
  dsimp only [wpI, xop, xcall, xli, xlj, xlf, xld, xla, xlg, xst, xst2, xc1, pI, pJ, pF, pD, pR, pA, p1, p0, xpop, xpush, xsm, xhas, xif, xic, xsw, xrf, xret, xrtl, xrtf, xrtd, xrta, xrtv, xfit, xnew, cond_true, cond_false, f40, f41, f42, f43, List.length_cons, List.length_nil, Nat.reduceAdd, Nat.reduceSub, Nat.reduceMul, Nat.reduceBEq, List.map_cons, List.map_nil, List.headD_cons, List.getElem?_cons_zero, List.getElem?_cons_succ, List.set_cons_zero, List.set_cons_succ]
  refine xal_of (by omega) (hat _) ?_
  rw [List.length_map, shapes_len, pk_mul]
  simp only [List.length_append, List.length_cons, List.length_nil, List.append_assoc, List.cons_append, List.nil_append, e264, Nat.zero_add]
  try dsimp only [xtag]
  refine ⟨by decide, by decide, trivial, by decide, by decide, by omega, ⟨wr (by omega), wr (by omega), trivial, trivial, trivial, trivial⟩, ⟨wr (by omega), trivial⟩,
    xwH_app (xwH_le (by omega) hw) ⟨⟨wr (by omega), trivial, trivial, trivial, wr (by omega), trivial, trivial, trivial⟩, trivial, trivial⟩, ?_⟩
  refine xhv_of (g_0 _ _ _) ?_
  rw [s_0]
  dsimp only [wpI, xop, xcall, xli, xlj, xlf, xld, xla, xlg, xst, xst2, xc1, pI, pJ, pF, pD, pR, pA, p1, p0, xpop, xpush, xsm, xhas, xif, xic, xsw, xrf, xret, xrtl, xrtf, xrtd, xrta, xrtv, xfit, xnew, cond_true, cond_false, f40, f41, f42, f43, List.length_cons, List.length_nil, Nat.reduceAdd, Nat.reduceSub, Nat.reduceMul, Nat.reduceBEq, List.map_cons, List.map_nil, List.headD_cons, List.getElem?_cons_zero, List.getElem?_cons_succ, List.set_cons_zero, List.set_cons_succ]
  refine xal_of (by omega) (hat _) ?_
  rw [List.length_map, shapes_len, pk_mul]
  simp only [List.length_append, List.length_cons, List.length_nil, List.append_assoc, List.cons_append, List.nil_append, e264, Nat.zero_add]
  try dsimp only [xtag]
  refine ⟨by decide, by decide, trivial, by decide, by decide, by omega, ⟨wr (by omega), wr (by omega), trivial, trivial, trivial, trivial⟩, ⟨wr (by omega), trivial⟩,
    xwH_app (xwH_le (by omega) hw) ⟨⟨wr (by omega), trivial, trivial, trivial, wr (by omega), wr (by omega), trivial, trivial⟩, trivial, trivial, trivial⟩, ?_⟩
  refine xhv_of (g_0 _ _ _) ?_
  rw [s_0]
  dsimp only [wpI, xop, xcall, xli, xlj, xlf, xld, xla, xlg, xst, xst2, xc1, pI, pJ, pF, pD, pR, pA, p1, p0, xpop, xpush, xsm, xhas, xif, xic, xsw, xrf, xret, xrtl, xrtf, xrtd, xrta, xrtv, xfit, xnew, cond_true, cond_false, f40, f41, f42, f43, List.length_cons, List.length_nil, Nat.reduceAdd, Nat.reduceSub, Nat.reduceMul, Nat.reduceBEq, List.map_cons, List.map_nil, List.headD_cons, List.getElem?_cons_zero, List.getElem?_cons_succ, List.set_cons_zero, List.set_cons_succ]
  have eB : (List.replicate 264 (0 : Int32)) = (List.replicate 264 false).map bI := by rw [List.map_replicate]; rfl
  have eN : (List.replicate 264 (0 : Int32)) = (List.replicate 264 0).map nI := by rw [List.map_replicate]; rfl
  have eH : h0 ++ [(5, [], [.ref a, .int (nI most), .int (bI bar), .int (bI wo), .ref (h0.length + 1), .ref (h0.length + 2), .ref (h0.length + 3)]), (2, List.replicate 264 0, []), (0, List.replicate 264 0, []), (0, List.replicate 264 0, [])] = hP h0 a most bar wo T00 := by
    unfold hP T00
    rw [← eB, ← eN]
  rw [eH]
  exact loop 132 0 T00 rfl T00_3 T00_B 3 792 (Nat.le_refl _) (Nat.le_refl _) hq
