theorem rowE_c (x y : Int32) : rowE x y = 0 ∨ rowE x y = 10 ∨ rowE x y = 11 := by
  unfold rowE
  repeat' split
  all_goals simp
theorem whyE_c (x y : Int32) : whyE x y = 0 ∨ whyE x y = 10 ∨ whyE x y = 11 := by
  unfold whyE
  repeat' split
  all_goals simp
theorem settingE_c (x : Int32) : settingE x = 0 ∨ settingE x = 10 := by
  unfold settingE
  repeat' split
  all_goals simp
theorem appE_c (n : Nat) (x : Int32) : appE n x = 0 ∨ appE n x = 11 ∨ appE n x = 12 := by
  unfold appE
  repeat' split
  all_goals simp
theorem obeyE_c (C : List Nat) (tl : Nat) : obeyE C tl = 0 ∨ obeyE C tl = 11 := by
  unfold obeyE
  repeat' split
  all_goals simp
theorem backE_c (b : Bool) : backE b = 0 ∨ backE b = 12 := by
  unfold backE
  repeat' split
  all_goals simp
theorem undoE_c (n : Nat) : undoE n = 0 ∨ undoE n = 12 := by
  unfold undoE
  repeat' split
  all_goals simp
theorem cntE_c (x : Int32) : cntE x = 0 ∨ cntE x = 11 := by
  unfold cntE
  repeat' split
  all_goals simp
theorem pyrE_c (x : Int32) : pyrE x = 0 ∨ pyrE x = 11 := by
  unfold pyrE
  repeat' split
  all_goals simp
theorem row_ok {q : Nat} {N : List Nat} {x y : Int32} (ok : okG q N) (h : rowE x y = 0) : rowR N x.toNatClampNeg y = mroR (mOf N) x.toNatClampNeg y.toNatClampNeg ∧ True := by
  unfold rowE at h
  by_cases z1 : isRowB x = false
  · rw [if_pos z1] at h; cases h
  rw [if_neg z1] at h
  by_cases z2 : y = nI 0 ∨ y = nI 1 ∨ y = nI 2 ∨ y = nI 3 ∨ y = nI 4 ∨ y = nI 5
  · obtain ⟨r, hr, rfl⟩ := row_of (by simpa using z1)
    have e1 : (nI r).toNatClampNeg = r := n_cl (by omega)
    obtain ⟨w, hw, rfl⟩ : ∃ w, w < 6 ∧ y = nI w := by
      rcases z2 with h | h | h | h | h | h
      · exact ⟨0, by decide, h⟩
      · exact ⟨1, by decide, h⟩
      · exact ⟨2, by decide, h⟩
      · exact ⟨3, by decide, h⟩
      · exact ⟨4, by decide, h⟩
      · exact ⟨5, by decide, h⟩
    have e2 : (nI w).toNatClampNeg = w := n_cl (by omega)
    rw [e1, e2]
    exact ⟨row_rel ok.1 ok.2.1 hr hw, trivial⟩
  · rw [if_neg z2] at h; cases h
theorem why_z {x y : Int32} (h : whyE x y = 0) : ∃ r b, r < 5 ∧ 1 ≤ b ∧ b ≤ 5 ∧ x.toNatClampNeg = r ∧ y.toNatClampNeg = b := by
  unfold whyE at h
  by_cases z1 : isRowB x = false
  · rw [if_pos z1] at h; cases h
  rw [if_neg z1] at h
  by_cases z2 : y < nI 1 ∨ nI 5 < y
  · rw [if_pos z2] at h; cases h
  obtain ⟨r, hr, rfl⟩ := row_of (by simpa using z1)
  have l1 : ¬ y < nI 1 := fun z => z2 (Or.inl z)
  obtain ⟨b, hb, rfl⟩ := nI_of2 (M := nI 5) (n := 5) (by decide) (fun z => l1 (Int32.lt_trans z (by decide))) (Int32.not_lt.mp fun z => z2 (Or.inr z))
  rw [nI_ltI (by omega) (by omega)] at l1
  exact ⟨r, b, hr, by omega, hb, n_cl (by omega), n_cl (by omega)⟩
theorem why_ok {q : Nat} {N : List Nat} {x y : Int32} (ok : okG q N) (h : whyE x y = 0) : nI (rsnN N x.toNatClampNeg y.toNatClampNeg) = nI (mrsN (mOf N) ((mOf N).getD 0 0) ((mOf N).getD 1 0) x.toNatClampNeg y.toNatClampNeg) ∧ True := by
  obtain ⟨r, b, hr, h1, h5, e1, e2⟩ := why_z h
  rw [e1, e2, rsn_rel ok.1 ok.2.1 hr h1 h5]
  exact ⟨rfl, trivial⟩
theorem falls_ok {q : Nat} {N : List Nat} {x y : Int32} (ok : okG q N) (h : whyE x y = 0) : fallI (N.getD 0 0) (N.getD 1 0) x.toNatClampNeg y.toNatClampNeg = mfaI (mOf N) x.toNatClampNeg y.toNatClampNeg ∧ True := by
  obtain ⟨r, b, hr, h1, h5, e1, e2⟩ := why_z h
  rw [e1, e2]
  exact ⟨fall_rel ok.1 ok.2.1 hr h1 h5, trivial⟩
theorem setting_ok {q : Nat} {N : List Nat} {x : Int32} (_ : okG q N) (h : settingE x = 0) : nI (N.getD (3 + x.toNatClampNeg) 0) = nI ((mOf N).getD (6 + x.toNatClampNeg) 0) ∧ True := by
  unfold settingE at h
  by_cases z1 : isSettingB x = false
  · rw [if_pos z1] at h; cases h
  obtain ⟨k, hk, rfl⟩ := set_of (by simpa using z1)
  have e1 : (nI k).toNatClampNeg = k := n_cl (by omega)
  rw [e1, mOf_S N k hk]
  exact ⟨rfl, trivial⟩
section L2
variable {q : Nat} {N V S C : List Nat} {P : List Value} {sv tl : Nat} {has : Bool} {B K' O D : List Nat} {laid : Int32} {many at' thr : Nat} {u : Int64} {g : xH}
theorem app_ok {x : Int32} (lj : LJ q N V S C P sv tl has B K' O D laid many at' thr u g) (h : appE tl x = 0) {u' : Int64} : nI (tl + 1) = nI (tl + 1) ∧ LJ (q + 6100) N V S (C.set tl x.toNatClampNeg) P sv (tl + 1) has B K' O D laid many at' 0 u' g := by
  refine ⟨rfl, ?_⟩
  unfold appE at h
  by_cases z1 : x < nI 33 ∨ nI 126 < x
  · rw [if_pos z1] at h; cases h
  rw [if_neg z1] at h
  by_cases z2 : 60 ≤ tl
  · rw [if_pos z2] at h; cases h
  have l1 : ¬ x < nI 33 := fun z => z1 (Or.inl z)
  obtain ⟨v, hv, rfl⟩ := nI_of2 (M := nI 126) (n := 126) (by decide) (fun z => l1 (Int32.lt_trans z (by decide))) (Int32.not_lt.mp fun z => z1 (Or.inr z))
  have e1 : (nI v).toNatClampNeg = v := n_cl (by omega)
  rw [e1]
  have g1 := LJ_g lj (N' := mOf N) (B' := B) (K2 := K') (T' := C.set tl v) (O' := O) (D' := D) (laid' := laid) (len' := tl + 1) (st' := sv) (many' := many) (at2 := at') (thr' := 0) (isK' := has) (u' := u')
  obtain ⟨h1, h2, h3, ⟨h6, h7, h8⟩, h9, h10, -⟩ := LJ_le lj (Nat.le_add_right q 6100)
  refine ⟨h1, h2, h3, ⟨List.length_set.trans h6, fun j => ?_, by omega⟩, h9, h10, g1⟩
  by_cases hj : tl = j
  · subst hj
    rw [gs_eq (by omega)]
    omega
  · rw [gs_ne hj]
    exact h7 j
theorem back_ok (lj : LJ q N V S C P sv tl has B K' O D laid many at' thr u g) (h : backE has = 0) {u' : Int64} : nI (S.getD 0 0) = nI ((cpK K' 19 0 (mOf N)).getD 0 0) ∧ mOf S = cpK K' 19 0 (mOf N) ∧ LJ (q + 6100) S (saveV N V sv) S C P (saveS sv) tl has (recB (mOf N) B sv) K' O D laid many at' 0 u' g := by
  have hh : has = true := by
    unfold backE at h
    split at h
    · assumption
    · cases h
  have h3 := lj.2.2.1
  obtain ⟨o, e⟩ := h3.2.2 hh
  have e2 : cpK K' 19 0 (mOf N) = K' := cpK_all h3.2.1 (mOf_len N)
  rw [e2, e]
  exact ⟨rfl, rfl, e ▸ LJ_new lj (by omega) (okG_le o (by omega))⟩
theorem undo_ok (lj : LJ q N V S C P sv tl has B K' O D laid many at' thr u g) (h : undoE sv = 0) {u' : Int64} : nI (sv - 1) = nI (sv - 1) ∧ mOf (cpyN V N ((sv - 1) * 18) 0 18) = cpU B (sv - 1) 19 0 (mOf N) ∧ LJ (q + 6100) (cpyN V N ((sv - 1) * 18) 0 18) V S C P (sv - 1) tl has B K' O D laid many at' 0 u' g := by
  have hh : 0 < sv := by
    unfold undoE at h
    split at h
    · assumption
    · cases h
  have g1 := LJ_g lj (N' := mOf (cpyN V N ((sv - 1) * 18) 0 18)) (B' := B) (K2 := K') (T' := C) (O' := O) (D' := D) (laid' := laid) (len' := tl) (st' := sv - 1) (many' := many) (at2 := at') (thr' := 0) (isK' := has) (u' := u')
  obtain ⟨h1, h2, h3, h6, h9, h10, -⟩ := LJ_le lj (Nat.le_add_right q 6100)
  obtain ⟨v1, v2, v3, v4⟩ := h2
  have e1 : cpyN V N ((sv - 1) * 18) 0 18 = slV V (sv - 1) := undo_all v1 h1.1.1 (by omega)
  have e2 : cpU B (sv - 1) 19 0 (mOf N) = slM B (sv - 1) := cpU_all (sv - 1) (mOf_len N)
  obtain ⟨w1, w2⟩ := v4 (sv - 1) (by omega)
  refine ⟨rfl, by rw [e1, e2, w2], ?_, ⟨v1, v2, by omega, fun j hj => v4 j (by omega)⟩, h3, h6, h9, h10, g1⟩
  rw [e1]
  exact w1
theorem obey_ok (lj : LJ q N V S C P sv tl has B K' O D laid many at' thr u g) (h : obeyE C tl = 0) {u' : Int64} {m9 a9 : Nat} : nI (dOr C tl (tl + 1) 0 0 59 0 0 N).1 = nI (obM (icF C tl O).2.2.2 (icF C tl O).2.2.1 0 (mOf N)).1 ∧ mOf (dOr C tl (tl + 1) 0 0 59 0 0 N).2 = (obM (icF C tl O).2.2.2 (icF C tl O).2.2.1 0 (mOf N)).2 ∧
    LJ (q + 6100) (dOr C tl (tl + 1) 0 0 59 0 0 N).2 (saveV N V sv) S C P (saveS sv) 0 has (recB (mOf N) B sv) K' (icF C tl O).2.2.2 D laid m9 a9 0 u' g := by
  have hb : (icF C tl O).1 = true := by
    have e := obey_code (T := C) (len := tl) O lj.2.2.2.1.2.2
    rw [h] at e
    by_cases hb : (icF C tl O).1 = true
    · exact hb
    · rw [if_neg hb] at e; cases e
  obtain ⟨r1, r2, r3⟩ := obey_rel (O := O) lj.2.2.2.1.2.2 lj.2.2.2.2.1 lj.1 hb
  refine ⟨by rw [r1], r2, ?_⟩
  have g1 := LJ_g lj (N' := mOf (dOr C tl (tl + 1) 0 0 59 0 0 N).2) (B' := recB (mOf N) B sv) (K2 := K') (T' := C) (O' := (icF C tl O).2.2.2) (D' := D) (laid' := laid) (len' := 0) (st' := saveS sv) (many' := m9) (at2 := a9) (thr' := 0) (isK' := has) (u' := u')
  obtain ⟨h1, h2, h3, ⟨h6, h7, h8⟩, h9, h10, -⟩ := LJ_le lj (Nat.le_add_right q 6100)
  exact ⟨r3, relV_save h2 h1, h3, ⟨h6, h7, by omega⟩, (icF_od C tl O h7 h8 h9).1, h10, g1⟩
theorem obey_no (lj : LJ q N V S C P sv tl has B K' O D laid many at' thr u g) {u' : Int64} {m9 a9 t9 : Nat} : LJ (q + 6100) N V S C P sv tl has B K' (icF C tl O).2.2.2 D laid m9 a9 t9 u' g := by
  have g1 := LJ_g lj (N' := mOf N) (B' := B) (K2 := K') (T' := C) (O' := (icF C tl O).2.2.2) (D' := D) (laid' := laid) (len' := tl) (st' := sv) (many' := m9) (at2 := a9) (thr' := t9) (isK' := has) (u' := u')
  obtain ⟨h1, h2, h3, ⟨h6, h7, h8⟩, h9, h10, -⟩ := LJ_le lj (Nat.le_add_right q 6100)
  exact ⟨h1, h2, h3, ⟨h6, h7, h8⟩, (icF_od C tl O h7 h8 h9).1, h10, g1⟩
end L2
theorem back_code (b : Bool) : cd1 (backE b) = if b = true then 0 else 1 := by
  cases b <;> rfl
theorem undo_code (n : Nat) : cd1 (undoE n) = if 0 < n then 0 else 1 := by
  unfold undoE
  split <;> rfl
theorem if_1 {p : Prop} [Decidable p] (h : (if p then 0 else 1 : Nat) ≠ 0) : nI 1 = nI (if p then 0 else 1) := by
  by_cases z : p
  · rw [if_pos z] at h; exact absurd rfl h
  · rw [if_neg z]
