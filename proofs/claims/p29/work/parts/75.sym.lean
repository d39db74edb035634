/-! ===== both thieves win as many pyramids: mirrored games ===== -/
def sgm (i : Nat) : Nat := (slotN (mirN (gS i))).getD 0
def ckS (m t r b : Nat) : Bool := Nat.beq (robN (mirN m) (1 - t) r b).2 (robN m t r b).2 && (!(Nat.beq (robN m t r b).2 0) || (Nat.beq (settledN (robN (mirN m) (1 - t) r b).1) (mirN (settledN (robN m t r b).1)) &&
  (Nat.beq (settledN (robN (mirN m) (1 - t) r b).1) (robN (mirN m) (1 - t) r b).1 == Nat.beq (settledN (robN m t r b).1) (robN m t r b).1)))
theorem ckS_0 : shL.all (fun m => (List.range 5).all fun r => [1, 2, 3].all fun b => ckS m 0 r b) = true := by decide +kernel
theorem ckS_1 : shL.all (fun m => (List.range 5).all fun r => [1, 2, 3].all fun b => ckS m 1 r b) = true := by decide +kernel
theorem ckS_all {i t r b : Nat} (hi : i < 132) (ht : t < 2) (hr : r < 5) (hb : 1 ≤ b) (hb3 : b ≤ 3) : ckS (gS i) t r b = true := by
  have hm : b ∈ [1, 2, 3] := by
    have : b = 1 ∨ b = 2 ∨ b = 3 := by omega
    rcases this with rfl | rfl | rfl <;> decide
  have go : ∀ t, shL.all (fun m => (List.range 5).all fun r => [1, 2, 3].all fun b => ckS m t r b) = true → ckS (gS i) t r b = true := fun t h =>
    List.all_eq_true.mp (List.all_eq_true.mp (sh_all h hi) r (List.mem_range.mpr hr)) b hm
  have ht2 : t = 0 ∨ t = 1 := by omega
  rcases ht2 with rfl | rfl
  · exact go _ ckS_0
  · exact go _ ckS_1
theorem sgm_at {i : Nat} (hi : i < 132) : slotN (mirN (gS i)) = some (sgm i) ∧ sgm i < 132 ∧ gS (sgm i) = mirN (gS i) := by
  obtain ⟨a, h1, h2, h3⟩ := shp_of (q_mir (shp_i hi)).1
  have e : sgm i = a := by unfold sgm; rw [h2]; rfl
  rw [e]
  exact ⟨h2, h1, h3.symm⟩
def sgT (s : Nat) : Nat := 2 * sgm (s / 2) + (1 - s % 2)
theorem sb_sym {bar : Bool} {i t r b : Nat} (hi : i < 132) (ht : t < 2) (hr : r < 5) (hb : 1 ≤ b) (hb3 : b ≤ 3) : sbO bar (1 - t) (mirN (gS i)) r b = (sbO bar t (gS i) r b).map sgT := by
  have k := ckS_all hi ht hr hb hb3
  unfold ckS at k
  obtain ⟨k1, k2⟩ := (Bool.and_eq_true _ _).mp k
  have k1 := (beq_iff _ _).mp k1
  unfold sbO
  rw [k1]
  by_cases z : (robN (gS i) t r b).2 = 0
  · rw [qb_t z] at k2
    simp only [Bool.not_true, Bool.false_or, Bool.and_eq_true, beq_iff] at k2
    obtain ⟨k3, k4⟩ := k2
    have k4 := eq_of_beq k4
    rw [if_pos z, if_pos z]
    obtain ⟨-, -, -, ⟨a, c, e1, e2, e3⟩, -⟩ := q_th (shp_i hi) ht hr hb (by omega) z
    have ha := (gS_of e1).1
    have hga := (gS_of e1).2
    have hc : (bar = true ∧ settledN (robN (mirN (gS i)) (1 - t) r b).1 ≠ (robN (mirN (gS i)) (1 - t) r b).1) ↔ (bar = true ∧ settledN (robN (gS i) t r b).1 ≠ (robN (gS i) t r b).1) := by
      refine and_congr_right fun _ => ?_
      rw [Ne, Ne, ← beq_iff, ← beq_iff, k4]
    by_cases w : bar = true ∧ settledN (robN (gS i) t r b).1 ≠ (robN (gS i) t r b).1
    · rw [if_pos (hc.mpr w), if_pos w]
      rfl
    · rw [if_neg (fun q => w (hc.mp q)), if_neg w, k3, e1, ← hga, (sgm_at ha).1]
      show some (2 * sgm a + (1 - (1 - t))) = some (sgT (2 * a + (1 - t)))
      unfold sgT
      rw [show (2 * a + (1 - t)) / 2 = a by omega, show (2 * a + (1 - t)) % 2 = 1 - t by omega]
  · rw [if_neg z, if_neg z]
    rfl
theorem bhB_sym {bar : Bool} {i t r : Nat} (hi : i < 132) (ht : t < 2) (hr : r < 5) : ∀ (j b : Nat), 1 ≤ b → b + j ≤ 4 → bhB bar (1 - t) (mirN (gS i)) r j b = (bhB bar t (gS i) r j b).map sgT
  | 0, _, _, _ => rfl
  | j + 1, b, hb, hj => by
    rw [bhB, bhB, List.map_append, bhB_sym hi ht hr j (b + 1) (by omega) (by omega), sb_sym hi ht hr hb (by omega)]
    cases sbO bar t (gS i) r b <;> rfl
theorem bhR_sym {bar : Bool} {i t most : Nat} (hi : i < 132) (ht : t < 2) (hm : most ≤ 3) : ∀ (j r : Nat), r + j ≤ 5 → bhR bar (1 - t) (mirN (gS i)) most j r = (bhR bar t (gS i) most j r).map sgT
  | 0, _, _ => rfl
  | j + 1, r, hj => by
    rw [bhR, bhR, List.map_append, bhR_sym hi ht hm j (r + 1) (by omega), bhB_sym hi ht (by omega) most 1 (Nat.le_refl _) (by omega)]
theorem any_sym {f : Nat → Bool} {τ : Nat → Nat} : ∀ (l : List Nat), (∀ s ∈ l, f (τ s) = f s) → (l.map τ).any f = l.any f
  | [], _ => rfl
  | a :: l, h => by
    rw [List.map_cons, List.any_cons, List.any_cons, h a List.mem_cons_self, any_sym l fun s hs => h s (List.mem_cons_of_mem _ hs)]
theorem won_sym {bar wo : Bool} {most : Nat} (hm : most ≤ 3) : ∀ n i, i < n → i < 132 → ∀ t, t < 2 → (plT most bar wo).1.getD (2 * sgm i + (1 - t)) false = (plT most bar wo).1.getD (2 * i + t) false := by
  intro n
  induction n with
  | zero => intro i h; omega
  | succ n ih =>
    intro i hn hi t ht
    obtain ⟨s1, s2, s3⟩ := sgm_at hi
    have hm5 : most ≤ 5 := by omega
    have a1 := gm_won (bar := bar) (wo := wo) hm5 s2 (show 1 - t < 2 by omega)
    have a2 := gm_won (bar := bar) (wo := wo) hm5 hi ht
    have e : bhL bar (1 - t) (gS (sgm i)) most = (bhL bar t (gS i) most).map sgT := by
      rw [s3]
      exact bhR_sym hi ht hm 5 0 (Nat.le_refl _)
    rw [a1, a2, e]
    have e1 : ((bhL bar t (gS i) most).map sgT).isEmpty = (bhL bar t (gS i) most).isEmpty := by cases bhL bar t (gS i) most <;> rfl
    have e2 := any_sym (f := fun s => !(plT most bar wo).1.getD s false) (τ := sgT) (bhL bar t (gS i) most) (fun s hs => by
      obtain ⟨a, h1, h2, -⟩ := bh_low hi ht hm5 hs
      have k := ih a (by omega) (by omega) (1 - t) (by omega)
      have h3 : sgT s = 2 * sgm a + (1 - (1 - t)) := by
        unfold sgT
        rw [h2, show (2 * a + (1 - t)) / 2 = a by omega, show (2 * a + (1 - t)) % 2 = 1 - t by omega]
      rw [h3, k, ← h2])
    rw [e1, e2]
theorem cW_sum (T : xTb) (t : Nat) : ∀ (j i s : Nat), cW T t j i s = s + ((List.range' i j).map fun k => if T.1.getD (2 * k + t) false then 1 else 0).sum
  | 0, _, _ => rfl
  | j + 1, i, s => by
    rw [cW, cW_sum T t j (i + 1), List.range'_succ, List.map_cons, List.sum_cons]
    omega
theorem sgm_perm : ((List.range 132).map sgm).isPerm (List.range 132) = true := by decide +kernel
theorem cW_gen {T : xTb} (h : ∀ i, i < 132 → T.1.getD (2 * sgm i + 1) false = T.1.getD (2 * i + 0) false) : cW T 0 132 0 0 = cW T 1 132 0 0 := by
  rw [cW_sum, cW_sum, Nat.zero_add, Nat.zero_add, ← List.range_eq_range']
  have p := (List.isPerm_iff.mp sgm_perm).map fun k => if T.1.getD (2 * k + 1) false then 1 else 0
  have q := p.sum_nat
  rw [← q, List.map_map]
  refine congrArg List.sum (List.map_congr_left fun i hi => ?_)
  have k := h i (List.mem_range.mp hi)
  show (if T.1.getD (2 * i + 0) false = true then 1 else 0) = if T.1.getD (2 * sgm i + 1) false = true then 1 else 0
  rw [k]
theorem cW_sym {bar wo : Bool} {most : Nat} (hm : most ≤ 3) : cW (plT most bar wo) 0 132 0 0 = cW (plT most bar wo) 1 132 0 0 :=
  cW_gen fun i hi => won_sym (bar := bar) (wo := wo) hm (i + 1) i (Nat.lt_succ_self i) hi 0 (by decide)
theorem cO_ge (T : xTb) : ∀ (j i s : Nat), s ≤ cO T j i s
  | 0, _, _ => Nat.le_refl _
  | j + 1, i, s => by
    rw [cO]
    exact Nat.le_trans (Nat.le_add_right _ _) (cO_ge T j (i + 1) _)
theorem gS_0 : gS 0 = 0 := by unfold gS; rw [shapes_L]; rfl
theorem cO_gen {T : xTb} (h : T.2.1.getD (2 * 0) 0 = 0 ∧ T.2.1.getD (2 * 0 + 1) 0 = 0) : 1 ≤ cO T (131 + 1) 0 0 := by
  rw [cO, if_pos h]
  exact cO_ge _ _ _ _
theorem cO_one {bar wo : Bool} {most : Nat} (hm : most ≤ 3) : 1 ≤ cO (plT most bar wo) 132 0 0 := by
  have h : ∀ t, t < 2 → (plT most bar wo).2.1.getD (2 * 0 + t) 0 = 0 := fun t ht => by
    refine (gm_over (by omega) (by decide) ht).1.mpr ?_
    cases hl : bhL bar t (gS 0) most with
    | nil => rfl
    | cons s l =>
      obtain ⟨a, h1, -⟩ := bh_low (bar := bar) (i := 0) (s := s) (by decide) ht (show most ≤ 5 by omega) (by rw [hl]; exact List.mem_cons_self)
      exact absurd h1 (Nat.not_lt_zero a)
  exact cO_gen ⟨h 0 (by decide), h 1 (by decide)⟩
