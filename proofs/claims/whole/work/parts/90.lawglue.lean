/-! ===== the law's cases: what they share ===== -/
theorem wV_Ro {E code : Nat} {r : Int32} {h1 h0 : xH} {u : Value} {l : List Int32} (h15 : h1[15]? = some (3, l, [u])) (he : E = 0 → code = 0) : wV (Ro E (some (.int r)) h1) (WQ code r h1 h0) := fun v h' ⟨z, e1, e2⟩ => by
  subst e1 e2
  exact ⟨r, l, u, rfl, h15, Or.inl ⟨he z, rfl, rfl⟩⟩
section XO
variable {E code : Nat} {r : Int32} {h1 h0 : xH}
theorem xo_c3 (hE : E = 0 ∨ E = 10 ∨ E = 11 ∨ E = 12) (hc : cd3 E = code) : ∀ k h', Xo E h0 k h' → (k = 10 ∧ WQ code r h1 h0 (some (.int (nI 1))) h') ∨ (k = 11 ∧ WQ code r h1 h0 (some (.int (nI 2))) h') ∨ (k = 12 ∧ WQ code r h1 h0 (some (.int (nI 3))) h') := by
  rintro k h' ⟨z, rfl, rfl⟩
  subst hc
  rcases hE with rfl | rfl | rfl | rfl
  · exact absurd rfl z
  · exact Or.inl ⟨rfl, Or.inr ⟨by decide, rfl, rfl⟩⟩
  · exact Or.inr (Or.inl ⟨rfl, Or.inr ⟨by decide, rfl, rfl⟩⟩)
  · exact Or.inr (Or.inr ⟨rfl, Or.inr ⟨by decide, rfl, rfl⟩⟩)
theorem xo_c2 (hE : E = 0 ∨ E = 10 ∨ E = 11) (hc : cd3 E = code) : ∀ k h', Xo E h0 k h' → (k = 10 ∧ WQ code r h1 h0 (some (.int (nI 1))) h') ∨ (k = 11 ∧ WQ code r h1 h0 (some (.int (nI 2))) h') := by
  rintro k h' ⟨z, rfl, rfl⟩
  subst hc
  rcases hE with rfl | rfl | rfl
  · exact absurd rfl z
  · exact Or.inl ⟨rfl, Or.inr ⟨by decide, rfl, rfl⟩⟩
  · exact Or.inr ⟨rfl, Or.inr ⟨by decide, rfl, rfl⟩⟩
theorem xo_IS (hE : E = 0 ∨ E = 10 ∨ E = 12) (hc : cdIS E = code) : ∀ k h', Xo E h0 k h' → (k = 10 ∧ WQ code r h1 h0 (some (.int (nI 1))) h') ∨ (k = 12 ∧ WQ code r h1 h0 (some (.int (nI 2))) h') := by
  rintro k h' ⟨z, rfl, rfl⟩
  subst hc
  rcases hE with rfl | rfl | rfl
  · exact absurd rfl z
  · exact Or.inl ⟨rfl, Or.inr ⟨by decide, rfl, rfl⟩⟩
  · exact Or.inr ⟨rfl, Or.inr ⟨by decide, rfl, rfl⟩⟩
theorem xo_AS (hE : E = 0 ∨ E = 11 ∨ E = 12) (hc : cdAS E = code) : ∀ k h', Xo E h0 k h' → (k = 11 ∧ WQ code r h1 h0 (some (.int (nI 1))) h') ∨ (k = 12 ∧ WQ code r h1 h0 (some (.int (nI 2))) h') := by
  rintro k h' ⟨z, rfl, rfl⟩
  subst hc
  rcases hE with rfl | rfl | rfl
  · exact absurd rfl z
  · exact Or.inl ⟨rfl, Or.inr ⟨by decide, rfl, rfl⟩⟩
  · exact Or.inr ⟨rfl, Or.inr ⟨by decide, rfl, rfl⟩⟩
theorem xo_1 {n : Nat} (hn : n ≠ 0) (hE : E = 0 ∨ E = n) (hc : cd1 E = code) : ∀ k h', Xo E h0 k h' → (k = n ∧ WQ code r h1 h0 (some (.int (nI 1))) h') := by
  rintro k h' ⟨z, e1, rfl⟩
  have e2 : E = n := hE.resolve_left z
  have e : code = 1 := by
    rw [← hc]
    unfold cd1
    rw [if_neg z]
  subst e
  exact ⟨e1.trans e2, Or.inr ⟨by decide, rfl, rfl⟩⟩
end XO
theorem LI_mk {q : Nat} {N V S C : List Nat} {P : List Value} {sv tl : Nat} {has : Bool} {M B K' O D : List Nat} {laid : Int32} {many at' thr : Nat} {u : Int64} {g : xH} (e : mOf N = M) (lj : LJ q N V S C P sv tl has B K' O D laid many at' thr u g) : LI q (hB N V S C P sv tl has (tl9 M B K' C O D laid tl sv many at' thr has u g)) := by
  subst e
  exact ⟨_, _, _, _, _, _, _, _, _, _, _, _, _, _, _, _, _, _, rfl, lj⟩
/-- a call that wrote a new row, the old one saved -/
theorem LJ_new {q q' : Nat} {N V S C : List Nat} {P : List Value} {sv tl : Nat} {has : Bool} {B K' O D : List Nat} {laid : Int32} {many at' thr : Nat} {u : Int64} {g : xH} (lj : LJ q N V S C P sv tl has B K' O D laid many at' thr u g) (hq : q ≤ q') {N' : List Nat} (ok : okG q' N') {thr' : Nat} {u' : Int64} :
    LJ q' N' (saveV N V sv) S C P (saveS sv) tl has (recB (mOf N) B sv) K' O D laid many at' thr' u' g := by
  have g1 := LJ_g lj (N' := mOf N') (B' := recB (mOf N) B sv) (K2 := K') (T' := C) (O' := O) (D' := D) (laid' := laid) (len' := tl) (st' := saveS sv) (many' := many) (at2 := at') (thr' := thr') (isK' := has) (u' := u')
  obtain ⟨h1, h2, ⟨h3, h4, h5⟩, h6, h7, h8, -⟩ := lj
  exact ⟨ok, relV_save (relV_le h2 hq) (okG_le h1 hq), ⟨h3, h4, fun z => ⟨okG_le (h5 z).1 hq, (h5 z).2⟩⟩, h6, h7, h8, g1⟩
/-- a call that changed nothing but the model's last error -/
theorem LJ_same {q q' : Nat} {N V S C : List Nat} {P : List Value} {sv tl : Nat} {has : Bool} {B K' O D : List Nat} {laid : Int32} {many at' thr : Nat} {u : Int64} {g : xH} (lj : LJ q N V S C P sv tl has B K' O D laid many at' thr u g) (hq : q ≤ q') {thr' : Nat} {u' : Int64} :
    LJ q' N V S C P sv tl has B K' O D laid many at' thr' u' g := by
  have g1 := LJ_g lj (N' := mOf N) (B' := B) (K2 := K') (T' := C) (O' := O) (D' := D) (laid' := laid) (len' := tl) (st' := sv) (many' := many) (at2 := at') (thr' := thr') (isK' := has) (u' := u')
  obtain ⟨h1, h2, ⟨h3, h4, h5⟩, h6, h7, h8, -⟩ := LJ_le lj hq
  exact ⟨h1, h2, ⟨h3, h4, h5⟩, h6, h7, h8, g1⟩
theorem takeE_c (N : List Nat) (x y : Int32) : takeE N x y = 0 ∨ takeE N x y = 10 ∨ takeE N x y = 11 ∨ takeE N x y = 12 := by
  unfold takeE
  repeat' split
  all_goals simp
theorem take_ok {q : Nat} {N : List Nat} {x y : Int32} (ok : okG q N) (h : takeE N x y = 0) : nI (pop (fallM (robN (N.getD 0 0) (N.getD 1 0) x.toNatClampNeg y.toNatClampNeg).1)) = nI (pop (mrN (N.getD 0 0) (N.getD 1 0) x.toNatClampNeg y.toNatClampNeg) - pop (mfN (mrN (N.getD 0 0) (N.getD 1 0) x.toNatClampNeg y.toNatClampNeg))) ∧
    mOf (stealN N x.toNatClampNeg y.toNatClampNeg) = takM (mOf N) x.toNatClampNeg y.toNatClampNeg ∧ okG (q + 6100) (stealN N x.toNatClampNeg y.toNatClampNeg) := by
  obtain ⟨ok1, hm, hg⟩ := id ok
  unfold takeE at h
  by_cases z1 : isRowB x = false
  · rw [if_pos z1] at h; cases h
  rw [if_neg z1] at h
  by_cases z2 : y < nI 1 ∨ nI (N.getD 3 0) < y
  · rw [if_pos z2] at h; cases h
  rw [if_neg z2] at h
  have z3 : rsnN N x.toNatClampNeg y.toNatClampNeg = 0 := by
    by_cases z3 : rsnN N x.toNatClampNeg y.toNatClampNeg = 0
    · exact z3
    · rw [if_neg z3] at h; cases h
  obtain ⟨r, hr, rfl⟩ := row_of (by simpa using z1)
  have n3 := n3_of ok1
  have z2a : ¬ y < nI 1 := fun z => z2 (Or.inl z)
  have z2b : ¬ nI (N.getD 3 0) < y := fun z => z2 (Or.inr z)
  have hy1 : ¬ y < 0 := fun z => z2a (Int32.lt_trans z (by decide))
  obtain ⟨b, hb, rfl⟩ := nI_of hy1
  rw [nI_ltI (by omega) (by omega)] at z2a z2b
  have e1 : (nI r).toNatClampNeg = r := n_cl (by omega)
  have e2 : (nI b).toNatClampNeg = b := n_cl (by omega)
  rw [e1, e2] at z3 ⊢
  have hbt := rsn_bits ok1 hm hr (by omega) (by omega) z3
  obtain ⟨-, f2, ⟨f3, f4, f5⟩, f6, -⟩ := rR_yes hm ok1.2.2.1 hr (by omega : 1 ≤ b) (by omega : b ≤ 5) hbt
  refine ⟨?_, steal_rel ok1 hm hr (by omega) (by omega) hbt, okG_le (okG_steal ok hr (by omega) (by omega) hbt) (by omega)⟩
  rw [f2]
  congr 1
  omega
theorem lcmp_z {A B : Int32} (h : A = B) : lg_cmp (xlong ([Value.long A.toInt64].getD (nI 0).toNatClampNeg Value.null)) B.toInt64 = 0 := by
  rw [nI0_0, ← h]
  exact lcmp_rf _
theorem nI_z {code : Nat} (hz : code ≠ 0) (hb : code < 4) : ¬ nI code = 0 := by
  have h : code = 1 ∨ code = 2 ∨ code = 3 := by omega
  rcases h with rfl | rfl | rfl <;> decide
theorem cd3_lt (E : Nat) : cd3 E < 4 := by
  unfold cd3
  repeat' split
  all_goals omega
theorem cd1_lt (E : Nat) : cd1 E < 4 := by
  unfold cd1
  repeat' split
  all_goals omega
theorem cdIS_lt (E : Nat) : cdIS E < 4 := by
  unfold cdIS
  repeat' split
  all_goals omega
theorem cdAS_lt (E : Nat) : cdAS E < 4 := by
  unfold cdAS
  repeat' split
  all_goals omega
theorem cd3_0 {E : Nat} (h : cd3 E = 0) : E = 0 := by
  unfold cd3 at h
  split at h
  · assumption
  · repeat' split at h
    all_goals omega
theorem cd1_0 {E : Nat} (h : cd1 E = 0) : E = 0 := by
  unfold cd1 at h
  split at h
  · assumption
  · omega
theorem cdIS_0 {E : Nat} (h : cdIS E = 0) : E = 0 := by
  unfold cdIS at h
  split at h
  · assumption
  · repeat' split at h
    all_goals omega
theorem cdAS_0 {E : Nat} (h : cdAS E = 0) : E = 0 := by
  unfold cdAS at h
  split at h
  · assumption
  · repeat' split at h
    all_goals omega
