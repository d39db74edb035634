/-! the model: what the best play tells of one pyramid -/
def otN (m t k : Nat) : Nat := 8 * (slotN (mfN (mrN m t (k / 3) (1 + (k - k / 3 * 3))))).getD 0 + 4 - 4 * t
/-- wins, most, fewest -/
abbrev xLp : Type := Bool × Nat × Nat
def lpS (D : List Nat) (o : Nat) (x : xLp) : xLp := (x.1 || D.getD o 0 == 0, if x.2.1 < D.getD (o + 2) 0 + 1 then D.getD (o + 2) 0 + 1 else x.2.1, if D.getD (o + 3) 0 + 1 < x.2.2 then D.getD (o + 3) 0 + 1 else x.2.2)
def lpL (N D : List Nat) (m t : Nat) : Nat → Nat → xLp → xLp
  | 0, _, x => x
  | j + 1, k, x => lpL N D m t j (k + 1) (if mrsN N m t (k / 3) (1 + (k - k / 3 * 3)) = 0 then lpS D (otN m t k) x else x)
def loX (N D : List Nat) (m t : Nat) : xLp := if mthL N m t 15 0 0 = 0 then (N.getD 8 0 == 1, 0, 0) else lpL N D m t 15 0 (false, 0, 100)
def loD (N D : List Nat) (i t : Nat) : List Nat := (((D.set (8 * i + 4 * t) (if (loX N D (gS i) t).1 = true then 1 else 0)).set (8 * i + 4 * t + 1) (if mthL N (gS i) t 15 0 0 = 0 then 1 else 0)).set (8 * i + 4 * t + 2) (loX N D (gS i) t).2.1).set (8 * i + 4 * t + 3) (loX N D (gS i) t).2.2
theorem lpS_le {D : List Nat} {o A : Nat} {x : xLp} (hA : 100 ≤ A) (hD : ∀ j, D.getD j 0 < A) (h : x.2.1 ≤ A ∧ x.2.2 ≤ A) : (lpS D o x).2.1 ≤ A ∧ (lpS D o x).2.2 ≤ A := by
  have h1 := hD (o + 2)
  have h2 := hD (o + 3)
  unfold lpS
  dsimp only
  constructor <;> split <;> omega
theorem lpL_le {N D : List Nat} {m t A : Nat} (hA : 100 ≤ A) (hD : ∀ j, D.getD j 0 < A) : ∀ (j k : Nat) (x : xLp), (x.2.1 ≤ A ∧ x.2.2 ≤ A) → (lpL N D m t j k x).2.1 ≤ A ∧ (lpL N D m t j k x).2.2 ≤ A
  | 0, _, _, h => h
  | j + 1, k, x, h => by
    rw [lpL]
    refine lpL_le hA hD j _ _ ?_
    split
    · exact lpS_le hA hD h
    · exact h
theorem loX_le {N D : List Nat} {m t A : Nat} (hA : 100 ≤ A) (hD : ∀ j, D.getD j 0 < A) : (loX N D m t).2.1 ≤ A ∧ (loX N D m t).2.2 ≤ A := by
  unfold loX
  split
  · exact ⟨Nat.zero_le _, Nat.zero_le _⟩
  · exact lpL_le hA hD _ _ _ ⟨Nat.zero_le _, hA⟩
theorem getD_set_lt {l : List Nat} {i j v A : Nat} (h : ∀ k, l.getD k 0 < A) (hv : v < A) : (l.set i v).getD j 0 < A := by
  by_cases e : i = j
  · subst e
    by_cases e2 : i < l.length
    · rw [gs_eq e2]; exact hv
    · rw [List.set_eq_of_length_le (by omega)]; exact h i
  · rw [gs_ne e]; exact h j
theorem loD_lt {N D : List Nat} {i t A : Nat} (hA : 100 ≤ A) (hD : ∀ j, D.getD j 0 < A) : ∀ j, (loD N D i t).getD j 0 < A + 1 := by
  have h := loX_le (N := N) (m := gS i) (t := t) hA hD
  have hD1 : ∀ j, D.getD j 0 < A + 1 := fun j => Nat.lt_succ_of_lt (hD j)
  intro j
  unfold loD
  refine getD_set_lt (fun j => getD_set_lt (fun j => getD_set_lt (fun j => getD_set_lt hD1 ?_) ?_) (Nat.lt_succ_of_le h.1)) (Nat.lt_succ_of_le h.2)
  · split <;> omega
  · split <;> omega
theorem loD_len (N D : List Nat) (i t : Nat) : (loD N D i t).length = D.length := by
  unfold loD
  simp only [List.length_set]
set_option maxRecDepth 100000 in
set_option maxHeartbeats 4000000 in
theorem ev_M_layOne (d i t A : Nat) (z : Nat → xC) (N B K' T O D : List Nat) (laid : Int32) (len st many at' thr : Nat) (isK : Bool) (g : xH) (ok : stM N) (hi : i < 132) (ht : t < 2) (hDl : D.length = 1056) (hA : 100 ≤ A) (hA2 : A < 2 ^ 30) (hD : ∀ j, D.getD j 0 < A) :
    Ev xT (d + 6) N_M_layOne [.ref 7, .int (nI i), .int (nI t)] (hM z N B K' T O shapesN D laid len st many at' thr isK g) (Rt none (hM z N B K' T O shapesN (loD N D i t) laid len st many at' thr isK g)) NX := by
  refine Ev_intro t_M_layOne (Nat.le_of_ble_eq_true rfl) ?_
  intro Q X hQ hX K hK
  show K 0 [some (.ref 7), some (.int (nI i)), some (.int (nI t)), none, none, none, none, none, none, none, none] [] _ 0 0
  obtain ⟨hN, h0, h1, h6, h6', h7, h8⟩ := ok
  have hq := hQ _ _ ⟨rfl, rfl⟩
  have hR := shapes_len
  have hgs := gS_lt i
  have egs : shapesN.getD i 0 = gS i := rfl
  have hx := loX_le (N := N) (m := gS i) (t := t) hA hD
  unfold loD at hq
  sorry
