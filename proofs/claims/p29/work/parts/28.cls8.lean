/-! ===== the class: one order ===== -/
theorem lfN_len (f : Nat) : ∀ (j r : Nat) (N : List Nat), (lfN f j r N).length = N.length
  | 0, _, _ => rfl
  | j + 1, r, N => (lfN_len f j (r + 1) _).trans List.length_set
theorem lfN_get (f : Nat) : ∀ (j r k : Nat) (N : List Nat), (k < 11 + r ∨ 11 + r + j ≤ k) → (lfN f j r N).getD k 0 = N.getD k 0
  | 0, _, _, _, _ => rfl
  | j + 1, r, k, N, h => by
    rw [lfN, lfN_get f j (r + 1) k _ (by omega), gs_ne (by omega)]
theorem letN_len (N : List Nat) (u : Nat) : (letN N u).length = N.length := List.length_set.trans (lfN_len _ _ _ _)
theorem letN_get (N : List Nat) (u k : Nat) (h : 0 < k ∧ k < 11 ∨ 16 ≤ k) : (letN N u).getD k 0 = N.getD k 0 := by
  unfold letN
  rw [gs_ne (by omega), lfN_get _ _ _ _ _ (by omega)]
theorem letN_0 (N : List Nat) (u : Nat) (h : N.length = 18) : (letN N u).getD 0 0 = settledN u := by
  unfold letN
  rw [gs_eq (by rw [lfN_len]; omega)]
theorem st_let {N : List Nat} {u : Nat} (hN : N.length = 18) (hu : u < 32768) (h1 : N.getD 1 0 < 2) (h3 : 1 ≤ N.getD 3 0) (h3' : N.getD 3 0 < 4) (h4 : N.getD 4 0 < 2) (h5 : N.getD 5 0 < 2) : stN (letN N u) := by
  refine ⟨(letN_len N u).trans hN, ?_, ?_, ?_, ?_, ?_, ?_⟩
  · rw [letN_0 N u hN]; exact settled_lt hu
  · rw [letN_get _ _ _ (by omega)]; exact h1
  · rw [letN_get _ _ _ (by omega)]; exact h3
  · rw [letN_get _ _ _ (by omega)]; exact h3'
  · rw [letN_get _ _ _ (by omega)]; exact h4
  · rw [letN_get _ _ _ (by omega)]; exact h5
theorem st_steal {N : List Nat} {r b : Nat} (ok : stN N) (hr : r < 5) : stN (stealN N r b) := by
  obtain ⟨hN, h0, h1, h3, h3', h4, h5⟩ := ok
  unfold stealN
  refine st_let (by simp only [List.length_set]; exact hN) (rob_lt h0) ?_ ?_ ?_ ?_ ?_
  · rw [gs_eq (by simp only [List.length_set]; omega)]; omega
  · rw [gs_ne (by omega), gs_ne (by omega), gs_ne (by omega), gs_ne (by omega)]; exact h3
  · rw [gs_ne (by omega), gs_ne (by omega), gs_ne (by omega), gs_ne (by omega)]; exact h3'
  · rw [gs_ne (by omega), gs_ne (by omega), gs_ne (by omega), gs_ne (by omega)]; exact h4
  · rw [gs_ne (by omega), gs_ne (by omega), gs_ne (by omega), gs_ne (by omega)]; exact h5
theorem st_knock {N : List Nat} {r p : Nat} (ok : stN N) : stN (knockN N r p) := by
  obtain ⟨hN, h0, h1, h3, h3', h4, h5⟩ := ok
  unfold knockN
  refine st_let (List.length_set.trans hN) (Nat.lt_of_le_of_lt Nat.and_le_left h0) ?_ ?_ ?_ ?_ ?_
  · rw [gs_ne (by omega)]; exact h1
  · rw [gs_ne (by omega)]; exact h3
  · rw [gs_ne (by omega)]; exact h3'
  · rw [gs_ne (by omega)]; exact h4
  · rw [gs_ne (by omega)]; exact h5
theorem st_0 {N : List Nat} {m : Nat} (ok : stN N) (hm : m < 32768) : stN (N.set 0 m) := by
  obtain ⟨hN, h0, h1, h3, h3', h4, h5⟩ := ok
  refine ⟨List.length_set.trans hN, ?_, ?_, ?_, ?_, ?_, ?_⟩
  · rw [gs_eq (by omega)]; exact hm
  · rw [gs_ne (by omega)]; exact h1
  · rw [gs_ne (by omega)]; exact h3
  · rw [gs_ne (by omega)]; exact h3'
  · rw [gs_ne (by omega)]; exact h4
  · rw [gs_ne (by omega)]; exact h5
theorem st_1 {N : List Nat} {t : Nat} (ok : stN N) (ht : t < 2) : stN (N.set 1 t) := by
  obtain ⟨hN, h0, h1, h3, h3', h4, h5⟩ := ok
  refine ⟨List.length_set.trans hN, ?_, ?_, ?_, ?_, ?_, ?_⟩
  · rw [gs_ne (by omega)]; exact h0
  · rw [gs_eq (by omega)]; exact ht
  · rw [gs_ne (by omega)]; exact h3
  · rw [gs_ne (by omega)]; exact h3'
  · rw [gs_ne (by omega)]; exact h4
  · rw [gs_ne (by omega)]; exact h5
theorem mirP_lt (m r : Nat) (hr : r < 5) : ∀ (j p a : Nat), p + j = 5 - r → a < 32768 → mirP m r j p a < 32768
  | 0, _, _, _, h => h
  | j + 1, p, a, hp, h => by
    rw [mirP]
    refine mirP_lt m r hr j (p + 1) _ (by omega) ?_
    split
    · exact Nat.or_lt_two_pow (n := 15) h (place_lt hr (by omega))
    · exact h
theorem mirR_lt (m : Nat) : ∀ (j r a : Nat), r + j = 5 → a < 32768 → mirR m j r a < 32768
  | 0, _, _, _, h => h
  | j + 1, r, a, hr, h => mirR_lt m j (r + 1) _ (by omega) (mirP_lt m r (by omega) _ _ _ (by omega) h)
theorem mirN_lt (m : Nat) : mirN m < 32768 := mirR_lt m 5 0 0 rfl (by decide)
theorem st_swap {N : List Nat} (ok : stN N) : stN (swapN N) := st_1 (st_0 ok (mirN_lt _)) (by have := ok.2.2.1; omega)
theorem st_fill {N : List Nat} (ok : stN N) : stN (fillN N) := st_1 (st_0 ok (by decide)) (by decide)
theorem st_put {N : List Nat} {r p : Nat} (ok : stN N) (hr : r < 5) (hp : p < 5 - r) : stN (N.set 0 (N.getD 0 0 ||| 1 <<< (rsN r + p))) := st_0 ok (Nat.or_lt_two_pow (n := 15) ok.2.1 (place_lt hr hp))
