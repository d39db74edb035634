/-! ===== the class: the Plays that are kept ===== -/
abbrev hB0 (g : xH) : xH := hB [] [] [] [] [] 0 0 false g
def plE (g : xH) (v : Value) (i : Nat) : Prop := v = .null ∨ ∃ p w lg sh, v = .ref (p + 7) ∧ PlA (hB0 g) (p + 7) 5 (w + 7) (lg + 7) (sh + 7) (i / 4 + 1) (i / 2 % 2 == 1) (i % 2 == 1) (plT (i / 4 + 1) (i / 2 % 2 == 1) (i % 2 == 1))
def isNu : Value → Nat
  | .null => 1
  | _ => 0
def nul : List Value → Nat
  | [] => 0
  | v :: l => isNu v + nul l
def gOk (P : List Value) (g : xH) : Prop := P.length = 12 ∧ (∀ i, i < 12 → plE g (P.getD i .null) i) ∧ xwS (g.length + 7) P ∧ xwH (g.length + 7) g ∧ g.length + 4 * nul P ≤ 700
theorem get_mono {g k : xH} {p : Nat} {c : xC} (h : g[p]? = some c) : (g ++ k)[p]? = some c := by
  rw [List.getElem?_append_left (List.getElem?_eq_some_iff.mp h).1]
  exact h
theorem PlA_mono {g k : xH} {N V S C : List Nat} {P : List Value} {sv tl : Nat} {has : Bool} {p w lg sh most : Nat} {bar wo : Bool} {T : xTb} (x : PlA (hB0 g) (p + 7) 5 (w + 7) (lg + 7) (sh + 7) most bar wo T) :
    PlA (hB N V S C P sv tl has (g ++ k)) (p + 7) 5 (w + 7) (lg + 7) (sh + 7) most bar wo T :=
  ⟨get_mono (g := g) x.obj, rfl, get_mono (g := g) x.won, get_mono (g := g) x.lon, get_mono (g := g) x.sho, x.la, x.ll, x.ls, x.n1, x.n2, x.n3⟩
theorem plE_mono {g k : xH} {v : Value} {i : Nat} (h : plE g v i) : plE (g ++ k) v i := by
  rcases h with h | ⟨p, w, lg, sh, e, x⟩
  · exact Or.inl h
  · exact Or.inr ⟨p, w, lg, sh, e, PlA_mono x⟩
theorem nul_set : ∀ (l : List Value) (i : Nat) (a : Nat), l.getD i .null = .null → i < l.length → nul (l.set i (.ref a)) + 1 = nul l
  | [], _, _, _, h => absurd h (by simp)
  | v :: l, 0, a, e, _ => by
    have e : v = .null := e
    subst e
    show 0 + nul l + 1 = 1 + nul l
    omega
  | v :: l, i + 1, a, e, h => by
    have h := nul_set l i a e (Nat.lt_of_succ_lt_succ h)
    show isNu v + nul (l.set i (.ref a)) + 1 = isNu v + nul l
    omega
theorem xwS_set {n a : Nat} (ha : a < n) : ∀ (l : List Value) (i : Nat), xwS n l → xwS n (l.set i (.ref a))
  | [], _, _ => trivial
  | _ :: _, 0, w => ⟨Or.inl ha, w.2⟩
  | _ :: l, i + 1, w => ⟨w.1, xwS_set ha l i w.2⟩
theorem getD_set_ne {l : List Value} {i j : Nat} {v : Value} (h : i ≠ j) : (l.set i v).getD j .null = l.getD j .null := by
  rw [List.getD_eq_getElem?_getD, List.getElem?_set_ne h, List.getD_eq_getElem?_getD]
theorem getD_set_eq {l : List Value} {i : Nat} {v : Value} (h : i < l.length) : (l.set i v).getD i .null = v := by
  rw [List.getD_eq_getElem?_getD, List.getElem?_set_self h]
  rfl
/-- the Play that a row of numbers asks for -/
def chN (N : List Nat) : Nat := 4 * (N.getD 3 0 - 1) + 2 * N.getD 4 0 + N.getD 5 0
def plN (N : List Nat) : xTb := plT (N.getD 3 0) (N.getD 4 0 == 1) (N.getD 5 0 == 1)
theorem gOk_new {P : List Value} {g : xH} {i : Nat} (h : gOk P g) (hi : i < 12) (e : P.getD i .null = .null) :
    gOk (P.set i (.ref (g.length + 7))) (g ++ [(5, [], [.ref 5, .int (nI (i / 4 + 1)), .int (bI (i / 2 % 2 == 1)), .int (bI (i % 2 == 1)), .ref (g.length + 7 + 1), .ref (g.length + 7 + 2), .ref (g.length + 7 + 3)]), (2, (plT (i / 4 + 1) (i / 2 % 2 == 1) (i % 2 == 1)).1.map bI, []), (0, (plT (i / 4 + 1) (i / 2 % 2 == 1) (i % 2 == 1)).2.1.map nI, []), (0, (plT (i / 4 + 1) (i / 2 % 2 == 1) (i % 2 == 1)).2.2.map nI, [])]) := by
  obtain ⟨h1, h2, h3, h4, h5⟩ := h
  have hn := nul_set P i (g.length + 7) e (by omega)
  refine ⟨List.length_set.trans h1, ?_, ?_, ?_, ?_⟩
  · intro j hj
    by_cases hij : i = j
    · subst hij
      rw [getD_set_eq (by omega)]
      have pl := hP_A (h0 := hB0 g) (a := 5) (most := i / 4 + 1) (bar := i / 2 % 2 == 1) (wo := i % 2 == 1) (T := plT (i / 4 + 1) (i / 2 % 2 == 1) (i % 2 == 1)) rfl (by simp only [List.length_cons]; omega) (plT_3 _ _ _)
      exact Or.inr ⟨g.length, g.length + 1, g.length + 2, g.length + 3, rfl, pl⟩
    · rw [getD_set_ne hij]
      exact plE_mono (h2 j hj)
  · rw [List.length_append]
    exact xwS_set (by simp only [List.length_cons, List.length_nil]; omega) _ _ (xwS_le (by omega) h3)
  · rw [List.length_append]
    simp only [List.length_cons, List.length_nil]
    exact xwH_app (xwH_le (by omega) h4) ⟨⟨wr (by omega), trivial, trivial, trivial, wr (by omega), wr (by omega), wr (by omega), trivial⟩, trivial, trivial, trivial, trivial⟩
  · rw [List.length_append]
    simp only [List.length_cons, List.length_nil]
    omega
