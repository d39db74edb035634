/-! the model: its shares, and their bits -/
theorem n64_ne {x : UInt64} (h : vf_n64 x) : FP.Core.val64 x ≠ .nan := by
  refine (FP.Core.ne_nan x).mpr ?_
  have h2 : x &&& 0x7fffffffffffffff ≤ 0x7ff0000000000000 := h
  rw [UInt64.le_iff_toNat_le, UInt64.toNat_and] at h2
  have e2 : (0x7fffffffffffffff : UInt64).toNat = 2 ^ 63 - 1 := by decide
  rw [e2, Nat.and_two_pow_sub_one_eq_mod] at h2
  exact h2
theorem n32_ne {x : UInt32} (h : vf_n32 x) : FP.Core.val32 x ≠ .nan := by
  refine (FP.Core.ne_nan32 x).mpr ?_
  have h2 : x &&& 0x7fffffff ≤ 0x7f800000 := h
  rw [UInt32.le_iff_toNat_le, UInt32.toNat_and] at h2
  have e2 : (0x7fffffff : UInt32).toNat = 2 ^ 31 - 1 := by decide
  rw [e2, Nat.and_two_pow_sub_one_eq_mod] at h2
  exact h2
set_option maxRecDepth 100000 in
set_option maxHeartbeats 4000000 in
theorem ev_isNaND (d : Nat) (x : UInt64) (h : xH) (hx : FP.Core.val64 x ≠ .nan) : Ev xT (d + 1) N_J_isNaND [.double x] h (Rt (some (.int (bI false))) h) NX := by
  refine Ev_intro t_J_isNaND (Nat.le_of_ble_eq_true rfl) ?_
  intro Q X hQ hX K hK
  show K 0 [some (.double x), none] [] _ 0 0
  have hq := hQ _ _ ⟨rfl, rfl⟩
  have e : FP.dcmp x x = some .eq := FP.Core.dcmp_self hx
  refine hK 0 _ _ _ _ _ _ _ _ rfl ?_
  dsimp only [k_J_isNaND_0, hN1, hB, hM1, hM, wpI, xop, xcall, xli, xlj, xlf, xld, xla, xlg, xst, xst2, xc1, pI, pJ, pF, pD, pR, pA, p1, p0, xpop, xpush, xsm, xhas, xif, xic, xsw, xai, xal, xhi, xhv, xrf, xret, xrtl, xrtf, xrtd, xrta, xrtv, xfit, xnew, cond_true, cond_false, f40, f41, f42, f43, List.length_cons, List.length_nil, Nat.reduceAdd, Nat.reduceSub, Nat.reduceMul, Nat.reduceBEq, List.map_cons, List.map_nil, List.headD_cons, List.getElem?_cons_zero, List.getElem?_cons_succ, List.set_cons_zero, List.set_cons_succ]
  rw [e]
  refine br_t (by decide) ?_
  refine hK 1 _ _ _ _ _ _ _ _ rfl ?_
  dsimp only [k_J_isNaND_1, hN1, hB, hM1, hM, wpI, xop, xcall, xli, xlj, xlf, xld, xla, xlg, xst, xst2, xc1, pI, pJ, pF, pD, pR, pA, p1, p0, xpop, xpush, xsm, xhas, xif, xic, xsw, xai, xal, xhi, xhv, xrf, xret, xrtl, xrtf, xrtd, xrta, xrtv, xfit, xnew, cond_true, cond_false, f40, f41, f42, f43, List.length_cons, List.length_nil, Nat.reduceAdd, Nat.reduceSub, Nat.reduceMul, Nat.reduceBEq, List.map_cons, List.map_nil, List.headD_cons, List.getElem?_cons_zero, List.getElem?_cons_succ, List.set_cons_zero, List.set_cons_succ]
  refine hK 2 _ _ _ _ _ _ _ _ rfl ?_
  dsimp only [k_J_isNaND_2, hN1, hB, hM1, hM, wpI, xop, xcall, xli, xlj, xlf, xld, xla, xlg, xst, xst2, xc1, pI, pJ, pF, pD, pR, pA, p1, p0, xpop, xpush, xsm, xhas, xif, xic, xsw, xai, xal, xhi, xhv, xrf, xret, xrtl, xrtf, xrtd, xrta, xrtv, xfit, xnew, cond_true, cond_false, f40, f41, f42, f43, List.length_cons, List.length_nil, Nat.reduceAdd, Nat.reduceSub, Nat.reduceMul, Nat.reduceBEq, List.map_cons, List.map_nil, List.headD_cons, List.getElem?_cons_zero, List.getElem?_cons_succ, List.set_cons_zero, List.set_cons_succ]
  exact ⟨by decide, Nat.le_refl _, Nat.le_refl _, hq⟩
set_option maxRecDepth 100000 in
set_option maxHeartbeats 4000000 in
theorem ev_isNaNF (d : Nat) (x : UInt32) (h : xH) (hx : FP.Core.val32 x ≠ .nan) : Ev xT (d + 1) N_J_isNaNF [.float x] h (Rt (some (.int (bI false))) h) NX := by
  refine Ev_intro t_J_isNaNF (Nat.le_of_ble_eq_true rfl) ?_
  intro Q X hQ hX K hK
  show K 0 [some (.float x)] [] _ 0 0
  have hq := hQ _ _ ⟨rfl, rfl⟩
  have e : FP.fcmp x x = some .eq := FP.Core.fcmp_self hx
  refine hK 0 _ _ _ _ _ _ _ _ rfl ?_
  dsimp only [k_J_isNaNF_0, hN1, hB, hM1, hM, wpI, xop, xcall, xli, xlj, xlf, xld, xla, xlg, xst, xst2, xc1, pI, pJ, pF, pD, pR, pA, p1, p0, xpop, xpush, xsm, xhas, xif, xic, xsw, xai, xal, xhi, xhv, xrf, xret, xrtl, xrtf, xrtd, xrta, xrtv, xfit, xnew, cond_true, cond_false, f40, f41, f42, f43, List.length_cons, List.length_nil, Nat.reduceAdd, Nat.reduceSub, Nat.reduceMul, Nat.reduceBEq, List.map_cons, List.map_nil, List.headD_cons, List.getElem?_cons_zero, List.getElem?_cons_succ, List.set_cons_zero, List.set_cons_succ]
  rw [e]
  refine br_t (by decide) ?_
  refine hK 1 _ _ _ _ _ _ _ _ rfl ?_
  dsimp only [k_J_isNaNF_1, hN1, hB, hM1, hM, wpI, xop, xcall, xli, xlj, xlf, xld, xla, xlg, xst, xst2, xc1, pI, pJ, pF, pD, pR, pA, p1, p0, xpop, xpush, xsm, xhas, xif, xic, xsw, xai, xal, xhi, xhv, xrf, xret, xrtl, xrtf, xrtd, xrta, xrtv, xfit, xnew, cond_true, cond_false, f40, f41, f42, f43, List.length_cons, List.length_nil, Nat.reduceAdd, Nat.reduceSub, Nat.reduceMul, Nat.reduceBEq, List.map_cons, List.map_nil, List.headD_cons, List.getElem?_cons_zero, List.getElem?_cons_succ, List.set_cons_zero, List.set_cons_succ]
  refine hK 2 _ _ _ _ _ _ _ _ rfl ?_
  dsimp only [k_J_isNaNF_2, hN1, hB, hM1, hM, wpI, xop, xcall, xli, xlj, xlf, xld, xla, xlg, xst, xst2, xc1, pI, pJ, pF, pD, pR, pA, p1, p0, xpop, xpush, xsm, xhas, xif, xic, xsw, xai, xal, xhi, xhv, xrf, xret, xrtl, xrtf, xrtd, xrta, xrtv, xfit, xnew, cond_true, cond_false, f40, f41, f42, f43, List.length_cons, List.length_nil, Nat.reduceAdd, Nat.reduceSub, Nat.reduceMul, Nat.reduceBEq, List.map_cons, List.map_nil, List.headD_cons, List.getElem?_cons_zero, List.getElem?_cons_succ, List.set_cons_zero, List.set_cons_succ]
  exact ⟨by decide, Nat.le_refl _, Nat.le_refl _, hq⟩
set_option maxRecDepth 100000 in
set_option maxHeartbeats 4000000 in
theorem ev_dBits (d : Nat) (x : UInt64) (h : xH) (hx : FP.Core.val64 x ≠ .nan) : Ev xT (d + 2) N_J_doubleToLongBits [.double x] h (Rt (some (.long x.toInt64)) h) NX := by
  refine Ev_intro t_J_doubleToLongBits (Nat.le_of_ble_eq_true rfl) ?_
  intro Q X hQ hX K hK
  show K 0 [some (.double x), none] [] _ 0 0
  have hq := hQ _ _ ⟨rfl, rfl⟩
  refine hK 0 _ _ _ _ _ _ _ _ rfl ?_
  dsimp only [k_J_doubleToLongBits_0, hN1, hB, hM1, hM, wpI, xop, xcall, xli, xlj, xlf, xld, xla, xlg, xst, xst2, xc1, pI, pJ, pF, pD, pR, pA, p1, p0, xpop, xpush, xsm, xhas, xif, xic, xsw, xai, xal, xhi, xhv, xrf, xret, xrtl, xrtf, xrtd, xrta, xrtv, xfit, xnew, cond_true, cond_false, f40, f41, f42, f43, List.length_cons, List.length_nil, Nat.reduceAdd, Nat.reduceSub, Nat.reduceMul, Nat.reduceBEq, List.map_cons, List.map_nil, List.headD_cons, List.getElem?_cons_zero, List.getElem?_cons_succ, List.set_cons_zero, List.set_cons_succ]
  refine Ev_use (ev_isNaND _ x h hx) ?_
  dsimp only [hN1, hB, hM1, hM, wpI, xop, xcall, xli, xlj, xlf, xld, xla, xlg, xst, xst2, xc1, pI, pJ, pF, pD, pR, pA, p1, p0, xpop, xpush, xsm, xhas, xif, xic, xsw, xai, xal, xhi, xhv, xrf, xret, xrtl, xrtf, xrtd, xrta, xrtv, xfit, xnew, cond_true, cond_false, f40, f41, f42, f43, List.length_cons, List.length_nil, Nat.reduceAdd, Nat.reduceSub, Nat.reduceMul, Nat.reduceBEq, List.map_cons, List.map_nil, List.headD_cons, List.getElem?_cons_zero, List.getElem?_cons_succ, List.set_cons_zero, List.set_cons_succ]
  refine ⟨fun y => absurd (by decide) y, fun _ => ?_⟩
  first | exact hq | exact ⟨Nat.le_refl _, hq⟩ | exact ⟨Nat.le_refl _, Nat.le_refl _, hq⟩ | exact ⟨Or.inl rfl, Nat.le_refl _, Nat.le_refl _, hq⟩ | exact ⟨Or.inr rfl, Nat.le_refl _, Nat.le_refl _, hq⟩
set_option maxRecDepth 100000 in
set_option maxHeartbeats 4000000 in
theorem ev_fBits (d : Nat) (x : UInt32) (h : xH) (hx : FP.Core.val32 x ≠ .nan) : Ev xT (d + 2) N_J_floatToIntBits [.float x] h (Rt (some (.int x.toInt32)) h) NX := by
  refine Ev_intro t_J_floatToIntBits (Nat.le_of_ble_eq_true rfl) ?_
  intro Q X hQ hX K hK
  show K 0 [some (.float x)] [] _ 0 0
  have hq := hQ _ _ ⟨rfl, rfl⟩
  refine hK 0 _ _ _ _ _ _ _ _ rfl ?_
  dsimp only [k_J_floatToIntBits_0, hN1, hB, hM1, hM, wpI, xop, xcall, xli, xlj, xlf, xld, xla, xlg, xst, xst2, xc1, pI, pJ, pF, pD, pR, pA, p1, p0, xpop, xpush, xsm, xhas, xif, xic, xsw, xai, xal, xhi, xhv, xrf, xret, xrtl, xrtf, xrtd, xrta, xrtv, xfit, xnew, cond_true, cond_false, f40, f41, f42, f43, List.length_cons, List.length_nil, Nat.reduceAdd, Nat.reduceSub, Nat.reduceMul, Nat.reduceBEq, List.map_cons, List.map_nil, List.headD_cons, List.getElem?_cons_zero, List.getElem?_cons_succ, List.set_cons_zero, List.set_cons_succ]
  refine Ev_use (ev_isNaNF _ x h hx) ?_
  dsimp only [hN1, hB, hM1, hM, wpI, xop, xcall, xli, xlj, xlf, xld, xla, xlg, xst, xst2, xc1, pI, pJ, pF, pD, pR, pA, p1, p0, xpop, xpush, xsm, xhas, xif, xic, xsw, xai, xal, xhi, xhv, xrf, xret, xrtl, xrtf, xrtd, xrta, xrtv, xfit, xnew, cond_true, cond_false, f40, f41, f42, f43, List.length_cons, List.length_nil, Nat.reduceAdd, Nat.reduceSub, Nat.reduceMul, Nat.reduceBEq, List.map_cons, List.map_nil, List.headD_cons, List.getElem?_cons_zero, List.getElem?_cons_succ, List.set_cons_zero, List.set_cons_succ]
  refine ⟨fun y => absurd (by decide) y, fun _ => ?_⟩
  first | exact hq | exact ⟨Nat.le_refl _, hq⟩ | exact ⟨Nat.le_refl _, Nat.le_refl _, hq⟩ | exact ⟨Or.inl rfl, Nat.le_refl _, Nat.le_refl _, hq⟩ | exact ⟨Or.inr rfl, Nat.le_refl _, Nat.le_refl _, hq⟩
set_option maxRecDepth 100000 in
set_option maxHeartbeats 4000000 in
theorem ev_M_brokenShare (d : Nat) (z : Nat → xC) (N B K' T O R D : List Nat) (laid : Int32) (len st many at' thr : Nat) (isK : Bool) (g : xH) (hN : N.length = 19) :
    Ev xT (d + 1) N_M_brokenShare [.ref 7] (hM z N B K' T O R D laid len st many at' thr isK g) (Rt (some (.double (bsF (N.getD 4 0) (N.getD 4 0 + N.getD 2 0 + N.getD 3 0)))) (hM z N B K' T O R D laid len st many at' 0 isK g)) NX := by
  refine Ev_intro t_M_brokenShare (Nat.le_of_ble_eq_true rfl) ?_
  intro Q X hQ hX K hK
  show K 0 [some (.ref 7), none] [] _ 0 0
  have hq := hQ _ _ ⟨rfl, rfl⟩
  unfold bsF at hq
  refine hK 0 _ _ _ _ _ _ _ _ rfl ?_
  dsimp only [k_M_brokenShare_0, hN1, hB, hM1, hM, wpI, xop, xcall, xli, xlj, xlf, xld, xla, xlg, xst, xst2, xc1, pI, pJ, pF, pD, pR, pA, p1, p0, xpop, xpush, xsm, xhas, xif, xic, xsw, xai, xal, xhi, xhv, xrf, xret, xrtl, xrtf, xrtd, xrta, xrtv, xfit, xnew, cond_true, cond_false, f40, f41, f42, f43, List.length_cons, List.length_nil, Nat.reduceAdd, Nat.reduceSub, Nat.reduceMul, Nat.reduceBEq, List.map_cons, List.map_nil, List.headD_cons, List.getElem?_cons_zero, List.getElem?_cons_succ, List.set_cons_zero, List.set_cons_succ]
  try simp (disch := first | omega | (simp only [List.length_set]; omega)) only [nI_add, n_and, n_or, n_xor, n_i31, nI_leI, nI_ltI, n_e0, n_eq, n_m1e, n_l0, n_g0, n_p0, n_q0, n_cl, n_in, n_sub, n_shr, n_shl, n_div, bI_0, n_01, n_11, bI_or, not_false_eq_true, forall_const, not_true_eq_false, false_imp_iff, true_imp_iff, List.length_map, List.length_set, hN, nL_u, gs_eq, gs_ne, nI_set, Nat.reduceLT, true_and, and_true, pk_mul]
  refine ⟨fun y => ?_, fun y => ?_⟩
  · rw [if_neg y] at hq
    refine hK 1 _ _ _ _ _ _ _ _ rfl ?_
    dsimp only [k_M_brokenShare_1, hN1, hB, hM1, hM, wpI, xop, xcall, xli, xlj, xlf, xld, xla, xlg, xst, xst2, xc1, pI, pJ, pF, pD, pR, pA, p1, p0, xpop, xpush, xsm, xhas, xif, xic, xsw, xai, xal, xhi, xhv, xrf, xret, xrtl, xrtf, xrtd, xrta, xrtv, xfit, xnew, cond_true, cond_false, f40, f41, f42, f43, List.length_cons, List.length_nil, Nat.reduceAdd, Nat.reduceSub, Nat.reduceMul, Nat.reduceBEq, List.map_cons, List.map_nil, List.headD_cons, List.getElem?_cons_zero, List.getElem?_cons_succ, List.set_cons_zero, List.set_cons_succ]
    try simp (disch := first | omega | (simp only [List.length_set]; omega)) only [nI_add, n_and, n_or, n_xor, n_i31, nI_leI, nI_ltI, n_e0, n_eq, n_m1e, n_l0, n_g0, n_p0, n_q0, n_cl, n_in, n_sub, n_shr, n_shl, n_div, bI_0, n_01, n_11, bI_or, not_false_eq_true, forall_const, not_true_eq_false, false_imp_iff, true_imp_iff, List.length_map, List.length_set, hN, nL_u, gs_eq, gs_ne, nI_set, Nat.reduceLT, true_and, and_true, pk_mul]
    refine ⟨bsF_n _ _ y, ?_⟩
    refine hK 2 _ _ _ _ _ _ _ _ rfl ?_
    dsimp only [k_M_brokenShare_2, hN1, hB, hM1, hM, wpI, xop, xcall, xli, xlj, xlf, xld, xla, xlg, xst, xst2, xc1, pI, pJ, pF, pD, pR, pA, p1, p0, xpop, xpush, xsm, xhas, xif, xic, xsw, xai, xal, xhi, xhv, xrf, xret, xrtl, xrtf, xrtd, xrta, xrtv, xfit, xnew, cond_true, cond_false, f40, f41, f42, f43, List.length_cons, List.length_nil, Nat.reduceAdd, Nat.reduceSub, Nat.reduceMul, Nat.reduceBEq, List.map_cons, List.map_nil, List.headD_cons, List.getElem?_cons_zero, List.getElem?_cons_succ, List.set_cons_zero, List.set_cons_succ]
    first | exact hq | exact ⟨Nat.le_refl _, hq⟩ | exact ⟨Nat.le_refl _, Nat.le_refl _, hq⟩ | exact ⟨Or.inl rfl, Nat.le_refl _, Nat.le_refl _, hq⟩ | exact ⟨Or.inr rfl, Nat.le_refl _, Nat.le_refl _, hq⟩
  · rw [if_pos y] at hq
    refine hK 2 _ _ _ _ _ _ _ _ rfl ?_
    dsimp only [k_M_brokenShare_2, hN1, hB, hM1, hM, wpI, xop, xcall, xli, xlj, xlf, xld, xla, xlg, xst, xst2, xc1, pI, pJ, pF, pD, pR, pA, p1, p0, xpop, xpush, xsm, xhas, xif, xic, xsw, xai, xal, xhi, xhv, xrf, xret, xrtl, xrtf, xrtd, xrta, xrtv, xfit, xnew, cond_true, cond_false, f40, f41, f42, f43, List.length_cons, List.length_nil, Nat.reduceAdd, Nat.reduceSub, Nat.reduceMul, Nat.reduceBEq, List.map_cons, List.map_nil, List.headD_cons, List.getElem?_cons_zero, List.getElem?_cons_succ, List.set_cons_zero, List.set_cons_succ]
    first | exact hq | exact ⟨Nat.le_refl _, hq⟩ | exact ⟨Nat.le_refl _, Nat.le_refl _, hq⟩ | exact ⟨Or.inl rfl, Nat.le_refl _, Nat.le_refl _, hq⟩ | exact ⟨Or.inr rfl, Nat.le_refl _, Nat.le_refl _, hq⟩
theorem myL_0 (D : List Nat) : ∀ (j k s : Nat), myL D 0 j k s = s + j
  | 0, _, _ => rfl
  | j + 1, k, s => by
    have e : myB D 0 k = true := rfl
    rw [myL, e, if_pos rfl, myL_0 D j]
    omega
theorem myL_le (D : List Nat) (w : Nat) : ∀ (j k s : Nat), myL D w j k s ≤ s + j
  | 0, _, _ => Nat.le_refl _
  | j + 1, k, s => by
    have h := myL_le D w j (k + 1) (s + if myB D w k = true then 1 else 0)
    rw [myL]
    split at h <;> rename_i e
    · rw [if_pos e]; omega
    · rw [if_neg e]; omega
def liD (N D2 : List Nat) (laid : Int32) (D : List Nat) : Prop := laD N laid D = D2 ∧ D.length = 1056 ∧ ∀ j, D.getD j 0 < 2 ^ 20
theorem liD_2 {N D2 D : List Nat} {laid : Int32} (h : liD N D2 laid D) (h2 : ∀ j, D2.getD j 0 < 2 ^ 20) : liD N D2 (nI (sI N)) D2 := by
  refine ⟨?_, ?_, h2⟩
  · unfold laD
    rw [if_pos rfl]
  · rw [← h.1]
    exact (laD_ok h.2.1 h.2.2).1
set_option maxRecDepth 100000 in
set_option maxHeartbeats 4000000 in
theorem ev_M_pyramids0 (d w : Nat) (z : Nat → xC) (N B K' T O D D2 : List Nat) (laid : Int32) (len st many at' thr : Nat) (isK : Bool) (g : xH) (ok : stM N) (li : liD N D2 laid D) (hw : w < 4) :
    Ev xT (d + 8) N_M_pyramids [.ref 7, .int (nI w)] (hM z N B K' T O shapesN D laid len st many at' thr isK g) (Rt (some (.int (nI (myL D2 w 132 0 0)))) (hM z N B K' T O shapesN D2 (nI (sI N)) len st many at' 0 isK g)) NX := by
  have key : ∀ w, w < 4 → mpyE (nI w) = 0 := by decide +kernel
  have h := ev_M_pyramids d (nI w) z N B K' T O D laid len st many at' thr isK g ok li.2.1 li.2.2
  rw [li.1, n_cl (by omega), key w hw] at h
  exact Ev_mono h (fun v g q => q.elim (fun q => ⟨q.2.1, q.2.2⟩) (fun q => (q.1 rfl).elim)) (fun _ _ q => q)
set_option maxRecDepth 100000 in
set_option maxHeartbeats 4000000 in
theorem ev_M_wonShare (d : Nat) (z : Nat → xC) (N B K' T O D D2 : List Nat) (laid : Int32) (len st many at' thr : Nat) (isK : Bool) (g : xH) (ok : stM N) (li : liD N D2 laid D) (h2 : ∀ j, D2.getD j 0 < 2 ^ 20) :
    Ev xT (d + 9) N_M_wonShare [.ref 7] (hM z N B K' T O shapesN D laid len st many at' thr isK g) (Rt (some (.float (wsF (myL D2 (1 + N.getD 1 0) 132 0 0)))) (hM z N B K' T O shapesN D2 (nI (sI N)) len st many at' 0 isK g)) NX := by
  refine Ev_intro t_M_wonShare (Nat.le_of_ble_eq_true rfl) ?_
  intro Q X hQ hX K hK
  show K 0 [some (.ref 7)] [] _ 0 0
  have ok' := ok
  obtain ⟨hN, h0, h1, h6, h6', h7, h8⟩ := ok
  have hq := hQ _ _ ⟨rfl, rfl⟩
  have hle := myL_le D2 (1 + N.getD 1 0) 132 0 0
  refine hK 0 _ _ _ _ _ _ _ _ rfl ?_
  dsimp only [k_M_wonShare_0, hN1, hB, hM1, hM, wpI, xop, xcall, xli, xlj, xlf, xld, xla, xlg, xst, xst2, xc1, pI, pJ, pF, pD, pR, pA, p1, p0, xpop, xpush, xsm, xhas, xif, xic, xsw, xai, xal, xhi, xhv, xrf, xret, xrtl, xrtf, xrtd, xrta, xrtv, xfit, xnew, cond_true, cond_false, f40, f41, f42, f43, List.length_cons, List.length_nil, Nat.reduceAdd, Nat.reduceSub, Nat.reduceMul, Nat.reduceBEq, List.map_cons, List.map_nil, List.headD_cons, List.getElem?_cons_zero, List.getElem?_cons_succ, List.set_cons_zero, List.set_cons_succ]
  try simp (disch := first | omega | (simp only [List.length_set]; omega)) only [nI_add, n_and, n_or, n_xor, n_i31, nI_leI, nI_ltI, n_e0, n_eq, n_m1e, n_l0, n_g0, n_p0, n_q0, n_cl, n_in, n_sub, n_shr, n_shl, n_div, bI_0, n_01, n_11, bI_or, not_false_eq_true, forall_const, not_true_eq_false, false_imp_iff, true_imp_iff, List.length_map, List.length_set, hN, nL_u, gs_eq, gs_ne, nI_set, Nat.reduceLT, true_and, and_true, pk_mul]
  refine Ev_use (ev_M_pyramids0 _ (1 + N.getD 1 0) z N B K' T O D D2 laid len st many at' thr isK g ok' li (by omega)) ?_
  dsimp only [hN1, hB, hM1, hM, wpI, xop, xcall, xli, xlj, xlf, xld, xla, xlg, xst, xst2, xc1, pI, pJ, pF, pD, pR, pA, p1, p0, xpop, xpush, xsm, xhas, xif, xic, xsw, xai, xal, xhi, xhv, xrf, xret, xrtl, xrtf, xrtd, xrta, xrtv, xfit, xnew, cond_true, cond_false, f40, f41, f42, f43, List.length_cons, List.length_nil, Nat.reduceAdd, Nat.reduceSub, Nat.reduceMul, Nat.reduceBEq, List.map_cons, List.map_nil, List.headD_cons, List.getElem?_cons_zero, List.getElem?_cons_succ, List.set_cons_zero, List.set_cons_succ]
  refine Ev_use (ev_M_pyramids0 _ 0 z N B K' T O D2 D2 (nI (sI N)) len st many at' 0 isK g ok' (liD_2 li h2) (by decide)) ?_
  dsimp only [hN1, hB, hM1, hM, wpI, xop, xcall, xli, xlj, xlf, xld, xla, xlg, xst, xst2, xc1, pI, pJ, pF, pD, pR, pA, p1, p0, xpop, xpush, xsm, xhas, xif, xic, xsw, xai, xal, xhi, xhv, xrf, xret, xrtl, xrtf, xrtd, xrta, xrtv, xfit, xnew, cond_true, cond_false, f40, f41, f42, f43, List.length_cons, List.length_nil, Nat.reduceAdd, Nat.reduceSub, Nat.reduceMul, Nat.reduceBEq, List.map_cons, List.map_nil, List.headD_cons, List.getElem?_cons_zero, List.getElem?_cons_succ, List.set_cons_zero, List.set_cons_succ]
  rw [myL_0]
  refine ⟨wsF_n (by omega), ?_⟩
  first | exact hq | exact ⟨Nat.le_refl _, hq⟩ | exact ⟨Nat.le_refl _, Nat.le_refl _, hq⟩ | exact ⟨Or.inl rfl, Nat.le_refl _, Nat.le_refl _, hq⟩ | exact ⟨Or.inr rfl, Nat.le_refl _, Nat.le_refl _, hq⟩
