/-! ===== what holds of a row of numbers between two acts ===== -/
def tkS (N : List Nat) : Nat := N.getD 6 0 + N.getD 7 0 + N.getD 8 0 + N.getD 9 0 + N.getD 10 0
/-- c: how many acts at most -/
def okL (c : Nat) (N : List Nat) : Prop := stN N ∧ shp (N.getD 0 0) ∧ tkS N = N.getD 16 0 + N.getD 17 0 ∧ N.getD 2 0 ≤ tkS N ∧ tkS N ≤ 3 * N.getD 2 0 ∧ N.getD 2 0 ≤ c ∧ brkS N 5 0 0 ≤ 15 * c
theorem okL_le {c c' : Nat} {N : List Nat} (h : okL c N) (hc : c ≤ c') : okL c' N := by
  obtain ⟨h1, h2, h3, h4, h5, h6, h7⟩ := h
  exact ⟨h1, h2, h3, h4, h5, by omega, by omega⟩
theorem okL_00 : okL 0 N00 := by
  refine ⟨⟨rfl, by decide, by decide, by decide, by decide, by decide, by decide⟩, shp_full, by decide, by decide, by decide, by decide, by decide⟩
theorem brk_e {N : List Nat} : brkS N 5 0 0 = N.getD 11 0 + N.getD 12 0 + N.getD 13 0 + N.getD 14 0 + N.getD 15 0 := by
  show 0 + _ + _ + _ + _ + _ = _
  rw [Nat.zero_add]
/-- a theft that is possible -/
theorem stl_st {N : List Nat} {r b : Nat} (ok : stN N) (hm : shp (N.getD 0 0)) (hr : r < 5) (hb : 1 ≤ b) (hb3 : b ≤ N.getD 3 0) (z : rsnN N r b = 0) :
    (stealN N r b).getD 0 0 = settledN (robN (N.getD 0 0) (N.getD 1 0) r b).1 ∧ (stealN N r b).getD 1 0 = 1 - N.getD 1 0 ∧ (∀ k, 3 ≤ k → k < 6 → (stealN N r b).getD k 0 = N.getD k 0) ∧ (stealN N r b).getD 2 0 = N.getD 2 0 + 1 ∧ tkS (stealN N r b) = tkS N + b ∧
    (stealN N r b).getD (16 + N.getD 1 0) 0 = N.getD (16 + N.getD 1 0) 0 + b ∧ (stealN N r b).getD 16 0 + (stealN N r b).getD 17 0 = N.getD 16 0 + N.getD 17 0 + b ∧ brkS (stealN N r b) 5 0 0 = brkS N 5 0 0 + pop (fallM (robN (N.getD 0 0) (N.getD 1 0) r b).1) ∧
    pop (settledN (robN (N.getD 0 0) (N.getD 1 0) r b).1) + b + pop (fallM (robN (N.getD 0 0) (N.getD 1 0) r b).1) = pop (N.getD 0 0) ∧ shp (settledN (robN (N.getD 0 0) (N.getD 1 0) r b).1) := by
  have ok' := ok
  obtain ⟨hN, h0, h1, h3, h3', h4, h5⟩ := ok
  obtain ⟨z1, a, z2, -⟩ := (rsn_sb ok' hm hr hb hb3).1 z
  obtain ⟨k1, k2, k3, -, -⟩ := q_th hm h1 hr hb (by omega) z1
  have hst : shp (settledN (robN (N.getD 0 0) (N.getD 1 0) r b).1) := by unfold shp; rw [z2]; rfl
  have key : ∀ M : List Nat, M.length = 18 → (letN M (robN (N.getD 0 0) (N.getD 1 0) r b).1).getD 0 0 = settledN (robN (N.getD 0 0) (N.getD 1 0) r b).1 ∧ (∀ k, 0 < k ∧ k < 11 ∨ 16 ≤ k → (letN M (robN (N.getD 0 0) (N.getD 1 0) r b).1).getD k 0 = M.getD k 0) ∧ brkS (letN M (robN (N.getD 0 0) (N.getD 1 0) r b).1) 5 0 0 = brkS M 5 0 0 + sumQ (fallM (robN (N.getD 0 0) (N.getD 1 0) r b).1) := fun M hM => (q_let hM).2
  unfold stealN
  obtain ⟨M, hMe⟩ : ∃ M, M = (((N.set (6 + r) (N.getD (6 + r) 0 + b)).set (16 + N.getD 1 0) (N.getD (16 + N.getD 1 0) 0 + b)).set 2 (N.getD 2 0 + 1)).set 1 (1 - N.getD 1 0) := ⟨_, rfl⟩
  rw [← hMe]
  have hM : M.length = 18 := by rw [hMe]; simp only [List.length_set]; exact hN
  have m1 : M.getD 1 0 = 1 - N.getD 1 0 := by rw [hMe, gs_eq (by simp only [List.length_set]; omega)]
  have m2 : M.getD 2 0 = N.getD 2 0 + 1 := by rw [hMe, gs_ne (by decide), gs_eq (by simp only [List.length_set]; omega)]
  have mt : M.getD (16 + N.getD 1 0) 0 = N.getD (16 + N.getD 1 0) 0 + b := by rw [hMe, gs_ne (by omega), gs_ne (by omega), gs_eq (by simp only [List.length_set]; omega)]
  have mr : M.getD (6 + r) 0 = N.getD (6 + r) 0 + b := by rw [hMe, gs_ne (by omega), gs_ne (by omega), gs_ne (by omega), gs_eq (by omega)]
  have mo : ∀ k, k ≠ 1 → k ≠ 2 → k ≠ 16 + N.getD 1 0 → k ≠ 6 + r → M.getD k 0 = N.getD k 0 := fun k a1 a2 a3 a4 => by rw [hMe, gs_ne (by omega), gs_ne (by omega), gs_ne (by omega), gs_ne (by omega)]
  obtain ⟨j1, j2, j3⟩ := key M hM
  refine ⟨j1, by rw [j2 1 (by decide), m1], fun k hk hk6 => by rw [j2 k (by omega), mo k (by omega) (by omega) (by omega) (by omega)], by rw [j2 2 (by decide), m2], ?_, by rw [j2 _ (by omega), mt], ?_, ?_, by omega, hst⟩
  · unfold tkS
    rw [j2 6 (by decide), j2 7 (by decide), j2 8 (by decide), j2 9 (by decide), j2 10 (by decide)]
    have hrr : r = 0 ∨ r = 1 ∨ r = 2 ∨ r = 3 ∨ r = 4 := by omega
    rcases hrr with rfl | rfl | rfl | rfl | rfl
    · have mr : M.getD 6 0 = N.getD 6 0 + b := mr
      rw [mr, mo 7 (by omega) (by omega) (by omega) (by omega), mo 8 (by omega) (by omega) (by omega) (by omega), mo 9 (by omega) (by omega) (by omega) (by omega), mo 10 (by omega) (by omega) (by omega) (by omega)]; omega
    · have mr : M.getD 7 0 = N.getD 7 0 + b := mr
      rw [mr, mo 6 (by omega) (by omega) (by omega) (by omega), mo 8 (by omega) (by omega) (by omega) (by omega), mo 9 (by omega) (by omega) (by omega) (by omega), mo 10 (by omega) (by omega) (by omega) (by omega)]; omega
    · have mr : M.getD 8 0 = N.getD 8 0 + b := mr
      rw [mr, mo 6 (by omega) (by omega) (by omega) (by omega), mo 7 (by omega) (by omega) (by omega) (by omega), mo 9 (by omega) (by omega) (by omega) (by omega), mo 10 (by omega) (by omega) (by omega) (by omega)]; omega
    · have mr : M.getD 9 0 = N.getD 9 0 + b := mr
      rw [mr, mo 6 (by omega) (by omega) (by omega) (by omega), mo 7 (by omega) (by omega) (by omega) (by omega), mo 8 (by omega) (by omega) (by omega) (by omega), mo 10 (by omega) (by omega) (by omega) (by omega)]; omega
    · have mr : M.getD 10 0 = N.getD 10 0 + b := mr
      rw [mr, mo 6 (by omega) (by omega) (by omega) (by omega), mo 7 (by omega) (by omega) (by omega) (by omega), mo 8 (by omega) (by omega) (by omega) (by omega), mo 9 (by omega) (by omega) (by omega) (by omega)]; omega
  · rw [j2 16 (by decide), j2 17 (by decide)]
    have ha1 : N.getD 1 0 = 0 ∨ N.getD 1 0 = 1 := by omega
    rcases ha1 with e | e
    · rw [e] at mt mo
      have mt : M.getD 16 0 = N.getD 16 0 + b := mt
      rw [mt, mo 17 (by omega) (by omega) (by omega) (by omega)]; omega
    · rw [e] at mt mo
      have mt : M.getD 17 0 = N.getD 17 0 + b := mt
      rw [mt, mo 16 (by omega) (by omega) (by omega) (by omega)]; omega
  · rw [j3, k3, brk_e, brk_e, mo 11 (by omega) (by omega) (by omega) (by omega), mo 12 (by omega) (by omega) (by omega) (by omega), mo 13 (by omega) (by omega) (by omega) (by omega), mo 14 (by omega) (by omega) (by omega) (by omega), mo 15 (by omega) (by omega) (by omega) (by omega)]
theorem okL_steal {c : Nat} {N : List Nat} {r b : Nat} (ok : okL c N) (hr : r < 5) (hb : 1 ≤ b) (hb3 : b ≤ N.getD 3 0) (z : rsnN N r b = 0) : okL (c + 1) (stealN N r b) := by
  obtain ⟨h1, h2, h3, h4, h5, h6, h7⟩ := ok
  obtain ⟨k1, k2, k3, k4, k5, k6, k7, k8, k9, k10⟩ := stl_st h1 h2 hr hb hb3 z
  have hp : pop (N.getD 0 0) ≤ 15 := pop_le h1.2.1
  have hb4 := h1.2.2.2.2.1
  refine ⟨st_steal h1 hr, by rw [k1]; exact k10, by omega, by omega, by omega, by omega, ?_⟩
  rw [k8]
  omega
theorem knk_st {N : List Nat} {r p : Nat} (ok : stN N) (hm : shp (N.getD 0 0)) (hr : r < 5) (hp : p < 5 - r) (h : hasN (N.getD 0 0) r p = true) :
    (knockN N r p).getD 0 0 = settledN (kncU (N.getD 0 0) r p) ∧ (∀ k, 0 < k ∧ k < 11 ∨ 16 ≤ k → (knockN N r p).getD k 0 = N.getD k 0) ∧ brkS (knockN N r p) 5 0 0 = brkS N 5 0 0 + 1 + pop (fallM (kncU (N.getD 0 0) r p)) := by
  obtain ⟨k1, k2, k3⟩ := q_knc hm hr hp h
  have hN := ok.1
  have hl : (N.set (11 + r) (N.getD (11 + r) 0 + 1)).length = 18 := List.length_set.trans hN
  obtain ⟨j0, j1, j2, j3⟩ := q_let (u := kncU (N.getD 0 0) r p) hl
  refine ⟨j1, fun k hk => ?_, ?_⟩
  · show (letN _ (kncU (N.getD 0 0) r p)).getD k 0 = _
    rw [j2 k hk, gs_ne (by omega)]
  · show brkS (letN _ (kncU (N.getD 0 0) r p)) 5 0 0 = _
    rw [j3, k3]
    have : brkS (N.set (11 + r) (N.getD (11 + r) 0 + 1)) 5 0 0 = brkS N 5 0 0 + 1 := by
      rw [brk_e, brk_e]
      have e1 : (N.set (11 + r) (N.getD (11 + r) 0 + 1)).getD (11 + r) 0 = N.getD (11 + r) 0 + 1 := gs_eq (by omega)
      have e2 : ∀ k, 11 + r ≠ k → (N.set (11 + r) (N.getD (11 + r) 0 + 1)).getD k 0 = N.getD k 0 := fun k hk => gs_ne hk
      generalize N.set (11 + r) (N.getD (11 + r) 0 + 1) = M at e1 e2 ⊢
      have hrr : r = 0 ∨ r = 1 ∨ r = 2 ∨ r = 3 ∨ r = 4 := by omega
      rcases hrr with rfl | rfl | rfl | rfl | rfl
      · have e1 : M.getD 11 0 = N.getD 11 0 + 1 := e1
        rw [e1, e2 12 (by decide), e2 13 (by decide), e2 14 (by decide), e2 15 (by decide)]; omega
      · have e1 : M.getD 12 0 = N.getD 12 0 + 1 := e1
        rw [e1, e2 11 (by decide), e2 13 (by decide), e2 14 (by decide), e2 15 (by decide)]; omega
      · have e1 : M.getD 13 0 = N.getD 13 0 + 1 := e1
        rw [e1, e2 11 (by decide), e2 12 (by decide), e2 14 (by decide), e2 15 (by decide)]; omega
      · have e1 : M.getD 14 0 = N.getD 14 0 + 1 := e1
        rw [e1, e2 11 (by decide), e2 12 (by decide), e2 13 (by decide), e2 15 (by decide)]; omega
      · have e1 : M.getD 15 0 = N.getD 15 0 + 1 := e1
        rw [e1, e2 11 (by decide), e2 12 (by decide), e2 13 (by decide), e2 14 (by decide)]; omega
    rw [this]
theorem okL_knock {c : Nat} {N : List Nat} {r p : Nat} (ok : okL c N) (hr : r < 5) (hp : p < 5 - r) (h : hasN (N.getD 0 0) r p = true) : okL (c + 1) (knockN N r p) := by
  obtain ⟨h1, h2, h3, h4, h5, h6, h7⟩ := ok
  obtain ⟨k1, k2, k3⟩ := knk_st h1 h2 hr hp h
  obtain ⟨j1, j2, j3⟩ := q_knc h2 hr hp h
  have hp : pop (N.getD 0 0) ≤ 15 := pop_le h1.2.1
  have e : tkS (knockN N r p) = tkS N := by
    unfold tkS
    rw [k2 6 (by decide), k2 7 (by decide), k2 8 (by decide), k2 9 (by decide), k2 10 (by decide)]
  refine ⟨st_knock h1, by rw [k1]; exact j1, ?_, ?_, ?_, ?_, ?_⟩
  · rw [e, k2 16 (by decide), k2 17 (by decide)]; exact h3
  · rw [e, k2 2 (by decide)]; exact h4
  · rw [e, k2 2 (by decide)]; exact h5
  · rw [k2 2 (by decide)]; omega
  · rw [k3]; omega
/-- the cells but the first three of another row of numbers -/
theorem okL_cells {c : Nat} {N M : List Nat} (ok : okL c N) (hst : stN M) (hm : shp (M.getD 0 0)) (h : ∀ k, k = 2 ∨ 6 ≤ k → M.getD k 0 = N.getD k 0) : okL (c + 1) M := by
  obtain ⟨h1, h2, h3, h4, h5, h6, h7⟩ := ok
  have e : tkS M = tkS N := by
    unfold tkS
    rw [h 6 (by decide), h 7 (by decide), h 8 (by decide), h 9 (by decide), h 10 (by decide)]
  have e2 : brkS M 5 0 0 = brkS N 5 0 0 := by
    rw [brk_e, brk_e, h 11 (by decide), h 12 (by decide), h 13 (by decide), h 14 (by decide), h 15 (by decide)]
  refine ⟨hst, hm, ?_, ?_, ?_, ?_, ?_⟩
  · rw [e, h 16 (by decide), h 17 (by decide)]; exact h3
  · rw [e, h 2 (by decide)]; exact h4
  · rw [e, h 2 (by decide)]; exact h5
  · rw [h 2 (by decide)]; omega
  · rw [e2]; omega
theorem okL_put {c : Nat} {N : List Nat} {r p : Nat} (ok : okL c N) (hr : r < 5) (hp : p < 5 - r) (h : hasRoomN (N.getD 0 0) r p = true) : okL (c + 1) (N.set 0 (putU (N.getD 0 0) r p)) := by
  have hN := ok.1.1
  refine okL_cells ok (st_put ok.1 hr hp) ?_ fun k hk => gs_ne (by omega)
  rw [gs_eq (by omega)]
  exact (q_put ok.2.1 hr hp h).1
theorem okL_swap {c : Nat} {N : List Nat} (ok : okL c N) : okL (c + 1) (swapN N) := by
  have hN := ok.1.1
  refine okL_cells ok (st_swap ok.1) ?_ fun k hk => ?_
  · show shp (((N.set 0 (mirN (N.getD 0 0))).set 1 (1 - N.getD 1 0)).getD 0 0)
    rw [gs_ne (by decide), gs_eq (by omega)]
    exact (q_mir ok.2.1).1
  · show ((N.set 0 (mirN (N.getD 0 0))).set 1 (1 - N.getD 1 0)).getD k 0 = _
    rw [gs_ne (by omega), gs_ne (by omega)]
theorem okL_fill {c : Nat} {N : List Nat} (ok : okL c N) : okL (c + 1) (fillN N) := by
  have hN := ok.1.1
  refine okL_cells ok (st_fill ok.1) ?_ fun k hk => ?_
  · show shp (((N.set 0 32767).set 1 0).getD 0 0)
    rw [gs_ne (by decide), gs_eq (by omega)]
    exact shp_full
  · show ((N.set 0 32767).set 1 0).getD k 0 = _
    rw [gs_ne (by omega), gs_ne (by omega)]
theorem okL_set {c : Nat} {N : List Nat} {k v : Nat} (ok : okL c N) (hk : k < 3) (hst : stN (N.set (3 + k) v)) : okL (c + 1) (N.set (3 + k) v) := by
  refine okL_cells ok hst ?_ fun j hj => gs_ne (by omega)
  rw [gs_ne (by omega)]
  exact ok.2.1
