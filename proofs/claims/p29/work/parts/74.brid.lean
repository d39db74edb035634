/-! ===== a row of numbers and the games ===== -/
theorem n3_of {N : List Nat} (ok : stN N) : N.getD 3 0 = 1 ∨ N.getD 3 0 = 2 ∨ N.getD 3 0 = 3 := by
  obtain ⟨-, -, -, h3, h3', -⟩ := ok
  omega
theorem rsn_big {N : List Nat} {r b : Nat} (h : N.getD 3 0 < b) : rsnN N r b = 1 := by
  unfold rsnN
  rw [if_pos h]
/-- a theft that is possible has its place in the table; one that isn't has none -/
theorem rsn_sb {N : List Nat} {r b : Nat} (ok : stN N) (hm : shp (N.getD 0 0)) (hr : r < 5) (hb : 1 ≤ b) (hb3 : b ≤ N.getD 3 0) :
    (rsnN N r b = 0 → (robN (N.getD 0 0) (N.getD 1 0) r b).2 = 0 ∧ ∃ a, slotN (settledN (robN (N.getD 0 0) (N.getD 1 0) r b).1) = some a ∧ sbO (barB N) (N.getD 1 0) (N.getD 0 0) r b = some (2 * a + (1 - N.getD 1 0))) ∧ (¬ rsnN N r b = 0 → sbO (barB N) (N.getD 1 0) (N.getD 0 0) r b = none) := by
  obtain ⟨hN, h0, h1, h3, h3', h4, h5⟩ := ok
  unfold rsnN sbO
  rw [if_neg (by omega)]
  by_cases z : (robN (N.getD 0 0) (N.getD 1 0) r b).2 = 0
  · rw [if_pos z, if_pos z]
    obtain ⟨-, -, -, ⟨a, c, e1, e2, e3⟩, e4⟩ := q_th hm h1 hr hb (by omega) z
    by_cases w : barB N = true ∧ settledN (robN (N.getD 0 0) (N.getD 1 0) r b).1 ≠ (robN (N.getD 0 0) (N.getD 1 0) r b).1
    · rw [if_pos ⟨w.1, e4.mpr w.2⟩, if_pos w]
      exact ⟨fun q => (nomatch q), fun _ => rfl⟩
    · rw [if_neg (fun q => w ⟨q.1, e4.mp q.2⟩), if_neg w]
      exact ⟨fun _ => ⟨z, a, e1, by rw [e1]; rfl⟩, fun q => absurd rfl q⟩
  · rw [if_neg z, if_neg z]
    exact ⟨fun q => (nomatch q), fun _ => rfl⟩
abbrev bhN (N : List Nat) : List Nat := bhL (barB N) (N.getD 1 0) (N.getD 0 0) (N.getD 3 0)
theorem pt_b {N : List Nat} {r : Nat} (ok : stN N) (hm : shp (N.getD 0 0)) (hr : r < 5) : ∀ (j b s : Nat), 1 ≤ b → b + j ≤ N.getD 3 0 + 1 → ptB N r j b s = s + (bhB (barB N) (N.getD 1 0) (N.getD 0 0) r j b).length
  | 0, _, _, _, _ => rfl
  | j + 1, b, s, hb, hj => by
    rw [ptB, bhB, List.length_append, pt_b ok hm hr j (b + 1) _ (by omega) (by omega)]
    obtain ⟨k1, k2⟩ := rsn_sb ok hm hr hb (by omega)
    by_cases z : rsnN N r b = 0
    · obtain ⟨-, a, -, e⟩ := k1 z
      rw [if_pos z, e]
      show s + 1 + _ = s + (1 + _)
      omega
    · rw [if_neg z, k2 z]
      show s + _ = s + (0 + _)
      omega
theorem pt_r {N : List Nat} (ok : stN N) (hm : shp (N.getD 0 0)) : ∀ (j r s : Nat), r + j ≤ 5 → ptR N j r s = s + (bhR (barB N) (N.getD 1 0) (N.getD 0 0) (N.getD 3 0) j r).length
  | 0, _, _, _ => rfl
  | j + 1, r, s, hj => by
    rw [ptR, bhR, List.length_append, pt_r ok hm j (r + 1) _ (by omega), pt_b ok hm (by omega) _ _ _ (Nat.le_refl _) (by omega)]
    omega
theorem pt_all {N : List Nat} (ok : stN N) (hm : shp (N.getD 0 0)) : ptR N 5 0 0 = (bhN N).length := by
  rw [pt_r ok hm 5 0 0 (Nat.le_refl _), Nat.zero_add]
  rfl
theorem plN_e (N : List Nat) : plN N = plT (N.getD 3 0) (barB N) (N.getD 5 0 == 1) := rfl
theorem won_at {T : xTb} {t m a : Nat} (h : slotN m = some a) : wonB T t m = T.1.getD (2 * a + t) false := by unfold wonB; rw [h]
theorem lon_at {T : xTb} {t m a : Nat} (h : slotN m = some a) : lonN T t m = T.2.1.getD (2 * a + t) 0 := by unfold lonN; rw [h]
theorem sho_at {T : xTb} {t m a : Nat} (h : slotN m = some a) : shoN T t m = T.2.2.getD (2 * a + t) 0 := by unfold shoN; rw [h]
/-- a theft that wins, as best() finds it -/
def beW (N : List Nat) (r b v : Nat) : Prop := v = 10 * r + b ∧ rsnN N r b = 0 ∧ wonB (plN N) (1 - N.getD 1 0) (settledN (robN (N.getD 0 0) (N.getD 1 0) r b).1) = false
theorem be_b {N : List Nat} {r : Nat} (ok : stN N) (hm : shp (N.getD 0 0)) (hr : r < 5) : ∀ (j b : Nat), 1 ≤ b → b + j ≤ N.getD 3 0 + 1 →
    (beB N r j b = none → ∀ s ∈ bhB (barB N) (N.getD 1 0) (N.getD 0 0) r j b, (plN N).1.getD s false = true) ∧ ∀ v, beB N r j b = some v → (∃ b', b ≤ b' ∧ b' < b + j ∧ beW N r b' v) ∧ ∃ s ∈ bhB (barB N) (N.getD 1 0) (N.getD 0 0) r j b, (plN N).1.getD s false = false
  | 0, _, _, _ => ⟨fun _ s hs => (nomatch hs), fun v h => nomatch h⟩
  | j + 1, b, hb, hj => by
    obtain ⟨i1, i2⟩ := be_b ok hm hr j (b + 1) (by omega) (by omega)
    obtain ⟨k1, k2⟩ := rsn_sb ok hm hr hb (by omega)
    rw [beB, bhB]
    have step : ∀ v, beB N r j (b + 1) = some v → (∃ b', b ≤ b' ∧ b' < b + (j + 1) ∧ beW N r b' v) ∧ ∃ s ∈ (sbO (barB N) (N.getD 1 0) (N.getD 0 0) r b).toList ++ bhB (barB N) (N.getD 1 0) (N.getD 0 0) r j (b + 1), (plN N).1.getD s false = false := fun v h => by
      obtain ⟨⟨b', h1, h2, h3⟩, s, h4, h5⟩ := i2 v h
      exact ⟨⟨b', by omega, by omega, h3⟩, s, List.mem_append_right _ h4, h5⟩
    by_cases z : rsnN N r b = 0
    · obtain ⟨-, a, e1, e2⟩ := k1 z
      rw [if_pos z]
      have ew := won_at (T := plN N) (t := 1 - N.getD 1 0) e1
      by_cases w : wonB (plN N) (1 - N.getD 1 0) (settledN (robN (N.getD 0 0) (N.getD 1 0) r b).1) = true
      · rw [if_pos w]
        refine ⟨fun h s hs => ?_, step⟩
        rcases List.mem_append.mp hs with hs | hs
        · rw [e2] at hs
          obtain rfl := List.mem_singleton.mp hs
          rw [← ew]; exact w
        · exact i1 h s hs
      · rw [if_neg w]
        refine ⟨fun h => (nomatch h), fun v h => ?_⟩
        obtain rfl := Option.some.inj h
        have w := Bool.eq_false_iff.mpr w
        refine ⟨⟨b, Nat.le_refl _, by omega, rfl, z, w⟩, 2 * a + (1 - N.getD 1 0), List.mem_append_left _ (by rw [e2]; exact List.mem_cons_self), by rw [← ew]; exact w⟩
    · rw [if_neg z]
      refine ⟨fun h s hs => ?_, step⟩
      rcases List.mem_append.mp hs with hs | hs
      · rw [k2 z] at hs
        exact nomatch hs
      · exact i1 h s hs
theorem be_r {N : List Nat} (ok : stN N) (hm : shp (N.getD 0 0)) : ∀ (j r : Nat), r + j ≤ 5 →
    (beR N j r = none → ∀ s ∈ bhR (barB N) (N.getD 1 0) (N.getD 0 0) (N.getD 3 0) j r, (plN N).1.getD s false = true) ∧ ∀ v, beR N j r = some v → (∃ r' b', r' < 5 ∧ 1 ≤ b' ∧ b' ≤ N.getD 3 0 ∧ beW N r' b' v) ∧ ∃ s ∈ bhR (barB N) (N.getD 1 0) (N.getD 0 0) (N.getD 3 0) j r, (plN N).1.getD s false = false
  | 0, _, _ => ⟨fun _ s hs => (nomatch hs), fun v h => nomatch h⟩
  | j + 1, r, hj => by
    obtain ⟨i1, i2⟩ := be_r ok hm j (r + 1) (by omega)
    obtain ⟨k1, k2⟩ := be_b ok hm (show r < 5 by omega) (N.getD 3 0) 1 (Nat.le_refl _) (by omega)
    rw [beR, bhR]
    cases e : beB N r (N.getD 3 0) 1 with
    | none =>
      rw [Option.none_or]
      refine ⟨fun h s hs => ?_, fun v h => ?_⟩
      · rcases List.mem_append.mp hs with hs | hs
        · exact k1 e s hs
        · exact i1 h s hs
      · obtain ⟨h1, s, h2, h3⟩ := i2 v h
        exact ⟨h1, s, List.mem_append_right _ h2, h3⟩
    | some v =>
      rw [Option.some_or]
      refine ⟨fun h => (nomatch h), fun v' h => ?_⟩
      obtain rfl := Option.some.inj h
      obtain ⟨⟨b', h1, h2, h3⟩, s, h4, h5⟩ := k2 v e
      exact ⟨⟨r, b', by omega, h1, by omega, h3⟩, s, List.mem_append_left _ h4, h5⟩
/-- what the law asks of a pyramid's games -/
theorem gp_all {N : List Nat} (ok : stN N) (hm : shp (N.getD 0 0)) :
    (lonN (plN N) (N.getD 1 0) (N.getD 0 0) = 0 ↔ ptR N 5 0 0 = 0) ∧ (shoN (plN N) (N.getD 1 0) (N.getD 0 0) = 0 ↔ ptR N 5 0 0 = 0) ∧ shoN (plN N) (N.getD 1 0) (N.getD 0 0) ≤ lonN (plN N) (N.getD 1 0) (N.getD 0 0) ∧ lonN (plN N) (N.getD 1 0) (N.getD 0 0) ≤ pop (N.getD 0 0) ∧
    (ptR N 5 0 0 = 0 → beR N 5 0 = none ∧ wonB (plN N) (N.getD 1 0) (N.getD 0 0) = (N.getD 5 0 == 1)) ∧ (¬ ptR N 5 0 0 = 0 → wonB (plN N) (N.getD 1 0) (N.getD 0 0) = (beR N 5 0).isSome) ∧
    (∀ v, beR N 5 0 = some v → ∃ r b, r < 5 ∧ 1 ≤ b ∧ b ≤ N.getD 3 0 ∧ beW N r b v) := by
  have ok' := ok
  obtain ⟨hN, h0, h1, h3, h3', h4, h5⟩ := ok
  obtain ⟨i, hi, hs, hg⟩ := shp_of hm
  have hm5 : N.getD 3 0 ≤ 5 := by omega
  obtain ⟨o1, o2⟩ := gm_over (bar := barB N) (wo := N.getD 5 0 == 1) hm5 hi h1
  obtain ⟨g1, g2⟩ := gm_len (bar := barB N) (wo := N.getD 5 0 == 1) hm5 (i + 1) i (Nat.lt_succ_self i) hi _ h1
  have gw := gm_won (bar := barB N) (wo := N.getD 5 0 == 1) hm5 hi h1
  obtain ⟨b1, b2⟩ := be_r ok' hm 5 0 (Nat.le_refl _)
  have c1 : beR N 5 0 = none → ∀ s ∈ bhR (barB N) (N.getD 1 0) (N.getD 0 0) (N.getD 3 0) 5 0, (plT (N.getD 3 0) (barB N) (N.getD 5 0 == 1)).1.getD s false = true := by rw [← plN_e]; exact b1
  have c2 : ∀ v, beR N 5 0 = some v → ∃ s ∈ bhR (barB N) (N.getD 1 0) (N.getD 0 0) (N.getD 3 0) 5 0, (plT (N.getD 3 0) (barB N) (N.getD 5 0 == 1)).1.getD s false = false := by rw [← plN_e]; exact fun v h => (b2 v h).2
  have hp := pt_all ok' hm
  have e1 : lonN (plN N) (N.getD 1 0) (N.getD 0 0) = (plT (N.getD 3 0) (barB N) (N.getD 5 0 == 1)).2.1.getD (2 * i + N.getD 1 0) 0 := by rw [plN_e]; exact lon_at hs
  have e2 : shoN (plN N) (N.getD 1 0) (N.getD 0 0) = (plT (N.getD 3 0) (barB N) (N.getD 5 0 == 1)).2.2.getD (2 * i + N.getD 1 0) 0 := by rw [plN_e]; exact sho_at hs
  have e3 : wonB (plN N) (N.getD 1 0) (N.getD 0 0) = (plT (N.getD 3 0) (barB N) (N.getD 5 0 == 1)).1.getD (2 * i + N.getD 1 0) false := by rw [plN_e]; exact won_at hs
  have hnil : ptR N 5 0 0 = 0 ↔ bhN N = [] := by rw [hp]; exact List.length_eq_zero_iff
  rw [e1, e2, e3, hnil, gw]
  rw [← hg] at o1 o2 g2 ⊢
  refine ⟨o1, o2, g1, g2, fun z => ?_, fun z => ?_, fun v h => (b2 v h).1⟩
  · have z' : bhR (barB N) (N.getD 1 0) (N.getD 0 0) (N.getD 3 0) 5 0 = [] := z
    refine ⟨?_, ?_⟩
    · cases hb : beR N 5 0 with
      | none => rfl
      | some v =>
        obtain ⟨s, hs, -⟩ := c2 v hb
        rw [z'] at hs
        exact nomatch hs
    · rw [show bhL (barB N) (N.getD 1 0) (N.getD 0 0) (N.getD 3 0) = [] from z]
      rfl
  · have hne : (bhL (barB N) (N.getD 1 0) (N.getD 0 0) (N.getD 3 0)).isEmpty = false := by
      cases hl : bhL (barB N) (N.getD 1 0) (N.getD 0 0) (N.getD 3 0) with
      | nil => exact absurd hl z
      | cons a l => rfl
    rw [hne]
    show (bhL (barB N) (N.getD 1 0) (N.getD 0 0) (N.getD 3 0)).any _ = _
    cases hb : beR N 5 0 with
    | none =>
      show _ = false
      rw [List.any_eq_false]
      intro s hs
      rw [c1 hb s hs]
      decide
    | some v =>
      show _ = true
      obtain ⟨s, hs, hf⟩ := c2 v hb
      rw [List.any_eq_true]
      refine ⟨s, hs, ?_⟩
      rw [hf]
      rfl
/-- what the law asks of a theft -/
theorem gp_theft {N : List Nat} {r b : Nat} (ok : stN N) (hm : shp (N.getD 0 0)) (hr : r < 5) (hb : 1 ≤ b) (hb3 : b ≤ N.getD 3 0) (z : rsnN N r b = 0) :
    lonN (plN N) (1 - N.getD 1 0) (settledN (robN (N.getD 0 0) (N.getD 1 0) r b).1) + 1 ≤ lonN (plN N) (N.getD 1 0) (N.getD 0 0) ∧ shoN (plN N) (N.getD 1 0) (N.getD 0 0) ≤ shoN (plN N) (1 - N.getD 1 0) (settledN (robN (N.getD 0 0) (N.getD 1 0) r b).1) + 1 ∧
    (wonB (plN N) (N.getD 1 0) (N.getD 0 0) = true ∨ wonB (plN N) (1 - N.getD 1 0) (settledN (robN (N.getD 0 0) (N.getD 1 0) r b).1) = true) ∧ (beR N 5 0 = some (10 * r + b) → wonB (plN N) (1 - N.getD 1 0) (settledN (robN (N.getD 0 0) (N.getD 1 0) r b).1) = false) := by
  have ok' := ok
  obtain ⟨hN, h0, h1, h3, h3', h4, h5⟩ := ok
  obtain ⟨i, hi, hs, hg⟩ := shp_of hm
  have hm5 : N.getD 3 0 ≤ 5 := by omega
  obtain ⟨-, a, e1, e2⟩ := (rsn_sb ok' hm hr hb hb3).1 z
  have hin : 2 * a + (1 - N.getD 1 0) ∈ bhL (barB N) (N.getD 1 0) (gS i) (N.getD 3 0) := by
    rw [← hg]
    exact bhL_in hr hb hb3 e2
  obtain ⟨l1, -⟩ := gm_lon (bar := barB N) (wo := N.getD 5 0 == 1) hm5 hi h1
  obtain ⟨s1, -⟩ := gm_sho (bar := barB N) (wo := N.getD 5 0 == 1) hm5 hi h1
  have gw := gm_won (bar := barB N) (wo := N.getD 5 0 == 1) hm5 hi h1
  have hbe := (be_r ok' hm 5 0 (Nat.le_refl _)).2 (10 * r + b)
  rw [plN_e]
  refine ⟨?_, ?_, ?_, fun h => ?_⟩
  · rw [lon_at e1, lon_at hs]
    exact l1 _ hin
  · rw [sho_at e1, sho_at hs]
    exact s1 _ hin
  · rw [won_at e1, won_at hs]
    cases hw : (plT (N.getD 3 0) (barB N) (N.getD 5 0 == 1)).1.getD (2 * a + (1 - N.getD 1 0)) false with
    | true => exact Or.inr rfl
    | false =>
      refine Or.inl ?_
      rw [gw]
      have hne : (bhL (barB N) (N.getD 1 0) (gS i) (N.getD 3 0)).isEmpty = false := by
        cases hl : bhL (barB N) (N.getD 1 0) (gS i) (N.getD 3 0) with
        | nil => rw [hl] at hin; exact nomatch hin
        | cons a l => rfl
      rw [hne]
      show (bhL (barB N) (N.getD 1 0) (gS i) (N.getD 3 0)).any _ = true
      rw [List.any_eq_true]
      refine ⟨_, hin, ?_⟩
      rw [hw]
      rfl
  · obtain ⟨r', b', k1, k2, k3, k4, k5, k6⟩ := (hbe h).1
    rw [plN_e] at k6
    obtain ⟨rfl, rfl⟩ : r = r' ∧ b = b' := by omega
    exact k6
