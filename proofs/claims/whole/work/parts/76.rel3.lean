/-! class and model: the same answers about thefts -/
theorem rsn_rel {N : List Nat} {r b : Nat} (ok : stN N) (hm : shp (N.getD 0 0)) (hr : r < 5) (hb : 1 ≤ b) (hb5 : b ≤ 5) : rsnN N r b = mrsN (mOf N) (N.getD 0 0) (N.getD 1 0) r b := by
  have h1 := ok.2.2.1
  have e6 : (mOf N).getD 6 0 = N.getD 3 0 := rfl
  have e7 : (mOf N).getD 7 0 = N.getD 4 0 := rfl
  unfold rsnN mrsN
  rw [e6, e7]
  by_cases a : N.getD 3 0 < b
  · rw [if_pos a, if_pos a]
  rw [if_neg a, if_neg a]
  by_cases c : pop (bitsN (N.getD 0 0) r) < b
  · rw [if_neg (rR_no hm h1 hr hb hb5 c), if_pos c]
  · obtain ⟨k1, k2, ⟨k3, k4, k5⟩, k6, k7⟩ := rR_yes hm h1 hr hb hb5 c
    rw [if_pos k1, if_neg c, k2, k3]
    have eb : (barB N = true ∧ pop (mfN (mrN (N.getD 0 0) (N.getD 1 0) r b)) < pop (mrN (N.getD 0 0) (N.getD 1 0) r b)) ↔ (N.getD 4 0 = 1 ∧ ¬ mfN (mrN (N.getD 0 0) (N.getD 1 0) r b) = mrN (N.getD 0 0) (N.getD 1 0) r b) := by
      rw [k7]
      unfold barB
      rw [beq_iff_eq]
    by_cases q : barB N = true ∧ pop (mfN (mrN (N.getD 0 0) (N.getD 1 0) r b)) < pop (mrN (N.getD 0 0) (N.getD 1 0) r b)
    · rw [if_pos q, if_pos (eb.mp q)]
    · rw [if_neg q, if_neg (fun w => q (eb.mpr w))]
theorem fall_rel {N : List Nat} {r b : Nat} (ok : stN N) (hm : shp (N.getD 0 0)) (hr : r < 5) (hb : 1 ≤ b) (hb5 : b ≤ 5) : fallI (N.getD 0 0) (N.getD 1 0) r b = mfaI (mOf N) r b := by
  have h1 := ok.2.2.1
  have e0 : (mOf N).getD 0 0 = N.getD 0 0 := rfl
  have e1 : (mOf N).getD 1 0 = N.getD 1 0 := rfl
  unfold fallI mfaI
  rw [e0, e1]
  by_cases c : pop (bitsN (N.getD 0 0) r) < b
  · rw [if_neg (rR_no hm h1 hr hb hb5 c), if_pos c]
  · obtain ⟨k1, k2, ⟨k3, k4, k5⟩, k6, k7⟩ := rR_yes hm h1 hr hb hb5 c
    rw [if_pos k1, if_neg c, k2, k3]
theorem rsn_big {N : List Nat} {r b : Nat} (h : N.getD 3 0 < b) : rsnN N r b = 1 := by
  unfold rsnN
  rw [if_pos h]
theorem rsn_bits {N : List Nat} {r b : Nat} (ok : stN N) (hm : shp (N.getD 0 0)) (hr : r < 5) (hb : 1 ≤ b) (hb5 : b ≤ 5) (h : rsnN N r b = 0) : ¬ pop (bitsN (N.getD 0 0) r) < b := by
  intro c
  unfold rsnN at h
  split at h
  · exact Nat.noConfusion h
  · rw [if_neg (rR_no hm ok.2.2.1 hr hb hb5 c)] at h
    exact Nat.noConfusion h
theorem n3_of {N : List Nat} (ok : stN N) : N.getD 3 0 = 1 ∨ N.getD 3 0 = 2 ∨ N.getD 3 0 = 3 := by
  have a := ok.2.2.2.1
  have b := ok.2.2.2.2.1
  omega
theorem grt_rel {N : List Nat} {r : Nat} (ok : stN N) (hm : shp (N.getD 0 0)) (hr : r < 5) : grtN N r (N.getD 3 0) = moM (mOf N) r 3 1 0 := by
  have e0 : (mOf N).getD 0 0 = N.getD 0 0 := rfl
  have e1 : (mOf N).getD 1 0 = N.getD 1 0 := rfl
  have r1 := rsn_rel (b := 1) ok hm hr (by decide) (by decide)
  have r2 := rsn_rel (b := 2) ok hm hr (by decide) (by decide)
  have r3 := rsn_rel (b := 3) ok hm hr (by decide) (by decide)
  show _ = (if mrsN (mOf N) ((mOf N).getD 0 0) ((mOf N).getD 1 0) r 3 = 0 then 3 else if mrsN (mOf N) ((mOf N).getD 0 0) ((mOf N).getD 1 0) r 2 = 0 then 2 else if mrsN (mOf N) ((mOf N).getD 0 0) ((mOf N).getD 1 0) r 1 = 0 then 1 else 0)
  rw [e0, e1, ← r1, ← r2, ← r3]
  rcases n3_of ok with h | h | h
  · have b2 : rsnN N r 2 = 1 := rsn_big (by omega)
    have b3 : rsnN N r 3 = 1 := rsn_big (by omega)
    rw [h, b2, b3, if_neg (by decide), if_neg (by decide)]
    rfl
  · have b3 : rsnN N r 3 = 1 := rsn_big (by omega)
    rw [h, b3, if_neg (by decide)]
    rfl
  · rw [h]
    rfl
theorem pt_rel {N : List Nat} (ok : stN N) (hm : shp (N.getD 0 0)) : ∀ (j r s : Nat), r + j = 5 → mthL (mOf N) (N.getD 0 0) (N.getD 1 0) (3 * j) (3 * r) s = ptR N j r s
  | 0, _, _, _ => rfl
  | j + 1, r, s, h => by
    have hr : r < 5 := by omega
    have r1 := rsn_rel (b := 1) ok hm hr (by decide) (by decide)
    have r2 := rsn_rel (b := 2) ok hm hr (by decide) (by decide)
    have r3 := rsn_rel (b := 3) ok hm hr (by decide) (by decide)
    have ih := pt_rel ok hm j (r + 1)
    have ej : 3 * (j + 1) = 3 * j + 1 + 1 + 1 := by omega
    have d0 : 3 * r / 3 = r := by omega
    have d1 : (3 * r + 1) / 3 = r := by omega
    have d2 : (3 * r + 1 + 1) / 3 = r := by omega
    have m0 : 1 + (3 * r - r * 3) = 1 := by omega
    have m1 : 1 + (3 * r + 1 - r * 3) = 2 := by omega
    have m2 : 1 + (3 * r + 1 + 1 - r * 3) = 3 := by omega
    have er : 3 * r + 1 + 1 + 1 = 3 * (r + 1) := by omega
    rw [ej, mthL, mthL, mthL, d0, d1, d2, m0, m1, m2, er, ih _ (by omega), ← r1, ← r2, ← r3, ptR]
    congr 1
    rcases n3_of ok with h | h | h
    · have b2 : rsnN N r 2 = 1 := rsn_big (by omega)
      have b3 : rsnN N r 3 = 1 := rsn_big (by omega)
      rw [h, b2, b3, ptB, ptB]
      split <;> rfl
    · have b3 : rsnN N r 3 = 1 := rsn_big (by omega)
      rw [h, b3, ptB, ptB, ptB]
      split <;> split <;> rfl
    · rw [h, ptB, ptB, ptB, ptB]
      split <;> split <;> split <;> rfl
theorem row_rel {N : List Nat} {r w : Nat} (ok : stN N) (hm : shp (N.getD 0 0)) (hr : r < 5) (hw : w < 6) : rowR N r (nI w) = mroR (mOf N) r w := by
  have e0 : (mOf N).getD 0 0 = N.getD 0 0 := rfl
  obtain ⟨k1, k2⟩ := (rM hm).2 r hr
  obtain ⟨t1, t2⟩ := mOf_T N r hr
  unfold rowR mroR
  rw [e0, t1, t2, ← k1, ← k2, ← grt_rel ok hm hr]
  have : w = 0 ∨ w = 1 ∨ w = 2 ∨ w = 3 ∨ w = 4 ∨ w = 5 := by omega
  rcases this with rfl | rfl | rfl | rfl | rfl | rfl <;> rfl
