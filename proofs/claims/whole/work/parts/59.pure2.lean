/-! what lies behind a theft of a shape -/
theorem pm_of {N : List Nat} {m t r b : Nat} (h7 : N.getD 7 0 < 2) : mrsN N m t r b = 0 ↔ b ≤ N.getD 6 0 ∧ pmB (N.getD 7 0 == 1) m t r b = true := by
  unfold mrsN pmB
  by_cases h1 : N.getD 6 0 < b
  · rw [if_pos h1]
    exact ⟨fun q => Nat.noConfusion q, fun q => by omega⟩
  rw [if_neg h1]
  by_cases h2 : pop (bitsN m r) < b
  · have e : Nat.blt (pop (bitsN m r)) b = true := by
      unfold Nat.blt
      exact Nat.ble_eq_true_of_le h2
    rw [if_pos h2, e]
    exact ⟨fun q => Nat.noConfusion q, fun q => Bool.noConfusion q.2⟩
  have e : Nat.blt (pop (bitsN m r)) b = false := by
    cases q : Nat.blt (pop (bitsN m r)) b
    · rfl
    · exact absurd (Nat.le_of_ble_eq_true q) h2
  rw [if_neg h2, e]
  by_cases h3 : N.getD 7 0 = 1
  · rw [beq_iff_eq.mpr h3]
    by_cases h4 : mfN (mrN m t r b) = mrN m t r b
    · have e4 : Nat.beq (mfN (mrN m t r b)) (mrN m t r b) = true := by rw [h4]; exact Nat.beq_refl _
      rw [if_neg (fun q => q.2 h4), e4]
      exact ⟨fun _ => ⟨by omega, rfl⟩, fun _ => rfl⟩
    · have e4 : Nat.beq (mfN (mrN m t r b)) (mrN m t r b) = false := by
        cases q : Nat.beq (mfN (mrN m t r b)) (mrN m t r b)
        · rfl
        · exact absurd (Nat.eq_of_beq_eq_true q) h4
      rw [if_pos ⟨h3, h4⟩, e4]
      exact ⟨fun q => Nat.noConfusion q, fun q => Bool.noConfusion q.2⟩
  · rw [beq_eq_false_iff_ne.mpr h3, if_neg (fun q => h3 q.1)]
    exact ⟨fun _ => ⟨by omega, rfl⟩, fun _ => rfl⟩
theorem ckB_all {bar : Bool} {i t r b : Nat} (hi : i < 132) (ht : t < 2) (hr : r < 5) (hb : 1 ≤ b) (hb3 : b ≤ 3) : ckB bar (gS i) t r b = true := by
  have hm : b ∈ [1, 2, 3] := by
    have : b = 1 ∨ b = 2 ∨ b = 3 := by omega
    rcases this with rfl | rfl | rfl <;> decide
  have go : ∀ t bar, shL.all (fun m => (List.range 5).all fun r => [1, 2, 3].all fun b => ckB bar m t r b) = true → ckB bar (gS i) t r b = true := fun t bar h =>
    List.all_eq_true.mp (List.all_eq_true.mp (sh_all h hi) r (List.mem_range.mpr hr)) b hm
  have ht2 : t = 0 ∨ t = 1 := by omega
  rcases ht2 with rfl | rfl <;> cases bar
  · exact go _ _ ckB_0
  · exact go _ _ ckB_2
  · exact go _ _ ckB_1
  · exact go _ _ ckB_3
theorem beh {bar : Bool} {i t r b : Nat} (hi : i < 132) (ht : t < 2) (hr : r < 5) (hb : 1 ≤ b) (hb3 : b ≤ 3) (h : pmB bar (gS i) t r b = true) :
    ∃ a, a < i ∧ slotN (mfN (mrN (gS i) t r b)) = some a ∧ mfN (mrN (gS i) t r b) = gS a ∧ pop (gS a) < pop (gS i) ∧ sbO bar t (gS i) r b = some (2 * a + (1 - t)) := by
  have k := ckB_all (bar := bar) hi ht hr hb hb3
  unfold ckB at k
  rw [Bool.and_eq_true, h, if_pos rfl, slot_gS hi] at k
  obtain ⟨k1, k2⟩ := k
  have e1 := oq_eq k1
  generalize hs : slotN (mfN (mrN (gS i) t r b)) = o at *
  cases o with
  | none => exact Bool.noConfusion k2
  | some a =>
    rw [Bool.not_true, Bool.false_or, Bool.and_eq_true] at k2
    have e2 := (gS_of hs).2
    refine ⟨a, Nat.le_of_ble_eq_true k2.1, rfl, e2.symm, ?_, e1⟩
    rw [e2]
    exact Nat.le_of_ble_eq_true k2.2
theorem nbeh {bar : Bool} {i t r b : Nat} (hi : i < 132) (ht : t < 2) (hr : r < 5) (hb : 1 ≤ b) (hb3 : b ≤ 3) (h : pmB bar (gS i) t r b = false) : sbO bar t (gS i) r b = none := by
  have k := ckB_all (bar := bar) hi ht hr hb hb3
  unfold ckB at k
  rw [Bool.and_eq_true, h] at k
  exact oq_eq k.1
