/-! class and model: the same answers out of the plays -/
theorem won_rel {N : List Nat} {T : xTb} {D : List Nat} {i t : Nat} (td : tdR N T D 264) (hi : i < 132) (ht : t < 2) : (if wonB T t (gS i) then 1 else 0 : Nat) = D.getD (8 * i + 4 * t) 0 := by
  have q := (td (2 * i + t) (by omega)).1
  have e : 8 * i + 4 * t = 4 * (2 * i + t) := by omega
  unfold wonB
  rw [slot_gS hi, e, q]
theorem lon_rel {N : List Nat} {T : xTb} {D : List Nat} {i t : Nat} (td : tdR N T D 264) (hi : i < 132) (ht : t < 2) : lonN T t (gS i) = D.getD (8 * i + 4 * t + (2 + 0)) 0 := by
  have q := (td (2 * i + t) (by omega)).2.2.1
  have e : 8 * i + 4 * t + (2 + 0) = 4 * (2 * i + t) + 2 := by omega
  unfold lonN
  rw [slot_gS hi, e, q]
theorem sho_rel {N : List Nat} {T : xTb} {D : List Nat} {i t : Nat} (td : tdR N T D 264) (hi : i < 132) (ht : t < 2) : shoN T t (gS i) = D.getD (8 * i + 4 * t + (2 + 1)) 0 := by
  have q := (td (2 * i + t) (by omega)).2.2.2.1
  have e : 8 * i + 4 * t + (2 + 1) = 4 * (2 * i + t) + 3 := by omega
  unfold shoN
  rw [slot_gS hi, e, q]
theorem win_rel {N D : List Nat} {T : xTb} {i : Nat} (ok : stN N) (td : tdR (mOf N) T D 264) (hi : i < 132) (hm : N.getD 0 0 = gS i) (hs : shp (N.getD 0 0)) : winI N = mwiI (mOf N) D i := by
  have h1 := ok.2.2.1
  have q := td (2 * i + N.getD 1 0) (by omega)
  have e : 8 * i + 4 * N.getD 1 0 + 1 = 4 * (2 * i + N.getD 1 0) + 1 := by omega
  have e1 : (mOf N).getD 1 0 = N.getD 1 0 := rfl
  have e8 : (mOf N).getD 8 0 = N.getD 5 0 := rfl
  have z := q.2.2.2.2.2
  have z2 : (2 * i + N.getD 1 0) / 2 = i := by omega
  have z3 : 2 * i + N.getD 1 0 - i * 2 = N.getD 1 0 := by omega
  have pt : mthL (mOf N) (N.getD 0 0) (N.getD 1 0) 15 0 0 = ptR N 5 0 0 := pt_rel ok hs 5 0 0 rfl
  rw [z2, z3, ← hm, pt] at z
  unfold winI mwiI
  rw [e1, e8, e, q.2.1]
  by_cases c : ptR N 5 0 0 = 0
  · rw [if_neg (by omega), if_pos (z.mpr c), if_neg (show ¬ (1 : Nat) = 0 by decide)]
  · rw [if_pos (by omega), if_neg (fun w => c (z.mp w)), if_pos rfl]
theorem cW_rel {N : List Nat} {T : xTb} {D : List Nat} (td : tdR N T D 264) (t : Nat) (ht : t < 2) : ∀ (j k s : Nat), k + j = 132 → cW T t j k s = myL D (1 + t) j k s
  | 0, _, _, _ => rfl
  | j + 1, k, s, h => by
    have q := (td (2 * k + t) (by omega)).1
    have e : myB D (1 + t) k = T.1.getD (2 * k + t) false := by
      have t2 : t = 0 ∨ t = 1 := by omega
      unfold myB
      rcases t2 with rfl | rfl
      · have e1 : 8 * k + 4 * ((1 + 0 - 1) &&& 1) = 4 * (2 * k + 0) := by
          show 8 * k + 4 * 0 = _
          omega
        rw [e1, q]
        cases T.1.getD (2 * k + 0) false <;> rfl
      · have e1 : 8 * k + 4 * ((1 + 1 - 1) &&& 1) = 4 * (2 * k + 1) := by
          show 8 * k + 4 * 1 = _
          omega
        rw [e1, q]
        cases T.1.getD (2 * k + 1) false <;> rfl
    rw [cW, myL, e]
    exact cW_rel td t ht j (k + 1) _ (by omega)
theorem cO_rel {N : List Nat} {T : xTb} {D : List Nat} (td : tdR N T D 264) : ∀ (j k s : Nat), k + j = 132 → cO T j k s = myL D 3 j k s
  | 0, _, _, _ => rfl
  | j + 1, k, s, h => by
    have q0 := (td (2 * k) (by omega)).2.1
    have q1 := (td (2 * k + 1) (by omega)).2.1
    have e0 : 4 * (2 * k) + 1 = 8 * k + 1 := by omega
    have e1 : 4 * (2 * k + 1) + 1 = 8 * k + 5 := by omega
    rw [e0] at q0
    rw [e1] at q1
    have e : (myB D 3 k = true) = (T.2.1.getD (2 * k) 0 = 0 ∧ T.2.1.getD (2 * k + 1) 0 = 0) := by
      show ((false || (true && (D.getD (8 * k + 1) 0 == 1) && (D.getD (8 * k + 5) 0 == 1)) || (false && _)) = true) = _
      rw [q0, q1, Bool.false_or, Bool.true_and, Bool.false_and, Bool.or_false]
      by_cases a : T.2.1.getD (2 * k) 0 = 0
      · by_cases b : T.2.1.getD (2 * k + 1) 0 = 0
        · rw [if_pos a, if_pos b]
          exact propext ⟨fun _ => ⟨a, b⟩, fun _ => rfl⟩
        · rw [if_pos a, if_neg b]
          exact propext ⟨fun w => Bool.noConfusion w, fun w => (b w.2).elim⟩
      · rw [if_neg a]
        exact propext ⟨fun w => Bool.noConfusion w, fun w => (a w.1).elim⟩
    rw [cO, myL]
    simp only [e]
    exact cO_rel td j (k + 1) _ (by omega)
theorem pyr_rel {N N' : List Nat} {D : List Nat} {w : Nat} (td : tdR N' (plN N) D 264) (hw : w < 4) : pyrR N (nI w) = myL D w 132 0 0 := by
  have : w = 0 ∨ w = 1 ∨ w = 2 ∨ w = 3 := by omega
  rcases this with rfl | rfl | rfl | rfl
  · exact (myL_0 D 132 0 0).symm
  · exact cW_rel td 0 (by decide) 132 0 0 rfl
  · exact cW_rel td 1 (by decide) 132 0 0 rfl
  · exact cO_rel td 132 0 0 rfl
/-- whether a theft wins -/
theorem be_cond {N D : List Nat} {i r b : Nat} (ok : stN N) (hm : shp (N.getD 0 0)) (hi : i < 132) (hg : N.getD 0 0 = gS i) (td : tdR (mOf N) (plN N) D 264) (hr : r < 5) (hb : 1 ≤ b) (hb3 : b ≤ 3) :
    (rsnN N r b = 0 ∧ ¬ wonB (plN N) (1 - N.getD 1 0) (settledN (robN (N.getD 0 0) (N.getD 1 0) r b).1) = true) ↔ (mrsN (mOf N) (N.getD 0 0) (N.getD 1 0) r b = 0 ∧ D.getD (8 * (slotN (mfN (mrN (N.getD 0 0) (N.getD 1 0) r b))).getD 0 + 4 - 4 * N.getD 1 0) 0 = 0) := by
  have h1 := ok.2.2.1
  rw [← rsn_rel ok hm hr hb (by omega)]
  by_cases z : rsnN N r b = 0
  · obtain ⟨k1, k2, ⟨k3, k4, k5⟩, k6, k7⟩ := rR_yes hm h1 hr hb (by omega) (rsn_bits ok hm hr hb (by omega) z)
    obtain ⟨a, ha, hs, e⟩ := shp_of k5
    have q := (td (2 * a + (1 - N.getD 1 0)) (by omega)).1
    have ea : 8 * (some a).getD 0 + 4 - 4 * N.getD 1 0 = 4 * (2 * a + (1 - N.getD 1 0)) := by
      show 8 * a + 4 - 4 * N.getD 1 0 = _
      omega
    rw [k2, k3, hs, ea, q]
    unfold wonB
    rw [hs]
    constructor
    · rintro ⟨_, w⟩
      exact ⟨z, by rw [if_neg w]⟩
    · rintro ⟨_, w⟩
      refine ⟨z, fun v => ?_⟩
      rw [if_pos v] at w
      exact Nat.noConfusion w
  · exact ⟨fun q => (z q.1).elim, fun q => (z q.1).elim⟩
theorem be_rel {N D : List Nat} {i : Nat} (ok : stN N) (hm : shp (N.getD 0 0)) (hi : i < 132) (hg : N.getD 0 0 = gS i) (td : tdR (mOf N) (plN N) D 264) : ∀ (j r : Nat), r + j = 5 → mbeL (mOf N) D (3 * r) (oI (beR N j r)) = mbeL (mOf N) D 0 (oI (beR N 5 0)) := by
  have step : ∀ (j r : Nat), r + (j + 1) = 5 → mbeL (mOf N) D (3 * (r + 1)) (oI (beR N j (r + 1))) = mbeL (mOf N) D (3 * r) (oI (beR N (j + 1) r)) := by
    intro j r h
    have hr : r < 5 := by omega
    have e0 : (mOf N).getD 0 0 = N.getD 0 0 := rfl
    have e1 : (mOf N).getD 1 0 = N.getD 1 0 := rfl
    have c1 := be_cond (b := 1) ok hm hi hg td hr (by decide) (by decide)
    have c2 := be_cond (b := 2) ok hm hi hg td hr (by decide) (by decide)
    have c3 := be_cond (b := 3) ok hm hi hg td hr (by decide) (by decide)
    have er : 3 * (r + 1) = 3 * r + 1 + 1 + 1 := by omega
    have d0 : 3 * r / 3 = r := by omega
    have d1 : (3 * r + 1) / 3 = r := by omega
    have d2 : (3 * r + 1 + 1) / 3 = r := by omega
    have m0 : 1 + (3 * r - r * 3) = 1 := by omega
    have m1 : 1 + (3 * r + 1 - r * 3) = 2 := by omega
    have m2 : 1 + (3 * r + 1 + 1 - r * 3) = 3 := by omega
    have f0 : 10 * r + 1 + (3 * r - r * 3) = 10 * r + 1 := by omega
    have f1 : 10 * r + 1 + (3 * r + 1 - r * 3) = 10 * r + 2 := by omega
    have f2 : 10 * r + 1 + (3 * r + 1 + 1 - r * 3) = 10 * r + 3 := by omega
    rw [er, mbeL, mbeL, mbeL, beR]
    unfold otN
    rw [e0, e1, d0, d1, d2, m0, m1, m2, f0, f1, f2]
    simp only [← c1, ← c2, ← c3]
    congr 1
    have st : ∀ (b j : Nat) (o : Option Nat), oI ((beB N r (j + 1) b).or o) = if rsnN N r b = 0 ∧ ¬ wonB (plN N) (1 - N.getD 1 0) (settledN (robN (N.getD 0 0) (N.getD 1 0) r b).1) = true then nI (10 * r + b) else oI ((beB N r j (b + 1)).or o) := by
      intro b j o
      rw [beB]
      by_cases a : rsnN N r b = 0
      · rw [if_pos a]
        by_cases c : wonB (plN N) (1 - N.getD 1 0) (settledN (robN (N.getD 0 0) (N.getD 1 0) r b).1) = true
        · rw [if_pos c, if_neg (fun q => q.2 c)]
        · rw [if_neg c, if_pos ⟨a, c⟩]
          rfl
      · rw [if_neg a, if_neg (fun q => a q.1)]
    have s0 : ∀ (b : Nat) (o : Option Nat), oI ((beB N r 0 b).or o) = oI o := fun b o => rfl
    rcases n3_of ok with h | h | h
    · have b2 : ¬ rsnN N r 2 = 0 := by rw [rsn_big (by omega)]; decide
      have b3 : ¬ rsnN N r 3 = 0 := by rw [rsn_big (by omega)]; decide
      have n2 : ¬ (rsnN N r 2 = 0 ∧ ¬ wonB (plN N) (1 - N.getD 1 0) (settledN (robN (N.getD 0 0) (N.getD 1 0) r 2).1) = true) := fun q => b2 q.1
      have n3 : ¬ (rsnN N r 3 = 0 ∧ ¬ wonB (plN N) (1 - N.getD 1 0) (settledN (robN (N.getD 0 0) (N.getD 1 0) r 3).1) = true) := fun q => b3 q.1
      rw [h, st, s0, if_neg n3, if_neg n2]
    · have b3 : ¬ rsnN N r 3 = 0 := by rw [rsn_big (by omega)]; decide
      have n3 : ¬ (rsnN N r 3 = 0 ∧ ¬ wonB (plN N) (1 - N.getD 1 0) (settledN (robN (N.getD 0 0) (N.getD 1 0) r 3).1) = true) := fun q => b3 q.1
      rw [h, st, st, s0, if_neg n3]
    · rw [h, st, st, st, s0]
  have all : ∀ (r j : Nat), r + j = 5 → mbeL (mOf N) D (3 * r) (oI (beR N j r)) = mbeL (mOf N) D 0 (oI (beR N 5 0)) := by
    intro r
    induction r with
    | zero =>
      intro j h
      obtain rfl : j = 5 := by omega
      rfl
    | succ r ih =>
      intro j h
      exact (step j r (by omega)).trans (ih (j + 1) (by omega))
  exact fun j r h => all r j h
theorem best_rel {N D : List Nat} {i : Nat} (ok : stN N) (hm : shp (N.getD 0 0)) (hi : i < 132) (hg : N.getD 0 0 = gS i) (td : tdR (mOf N) (plN N) D 264) : oI (beR N 5 0) = mbeL (mOf N) D 15 (-1) := (be_rel ok hm hi hg td 0 5 rfl).symm
theorem cnt_rel {N D : List Nat} {i sv k : Nat} (ok : stN N) (hm : shp (N.getD 0 0)) (hi : i < 132) (hg : N.getD 0 0 = gS i) (td : tdR (mOf N) (plN N) D 264) (hk : k < 10) : cntR N sv (nI k) = mcoR (mOf N) D i sv k := by
  have e7 : mthL (mOf N) ((mOf N).getD 0 0) ((mOf N).getD 1 0) 15 0 0 = ptR N 5 0 0 := pt_rel ok hm 5 0 0 rfl
  have e8 := win_rel ok td hi hg hm
  unfold cntR mcoR
  rw [e7, ← e8]
  have e5 : (mOf N).getD 4 0 = brkS N 5 0 0 := by
    show N.getD 11 0 + N.getD 12 0 + N.getD 13 0 + N.getD 14 0 + N.getD 15 0 = 0 + N.getD 11 0 + N.getD 12 0 + N.getD 13 0 + N.getD 14 0 + N.getD 15 0
    omega
  rw [e5]
  have : k = 0 ∨ k = 1 ∨ k = 2 ∨ k = 3 ∨ k = 4 ∨ k = 5 ∨ k = 6 ∨ k = 7 ∨ k = 8 ∨ k = 9 := by omega
  rcases this with rfl | rfl | rfl | rfl | rfl | rfl | rfl | rfl | rfl | rfl <;> rfl
