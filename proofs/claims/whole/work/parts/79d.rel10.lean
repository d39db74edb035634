/-! class and model: the same orders done -/
def gone (N : List Nat) : Nat := brkS N 5 0 0 + N.getD 16 0 + N.getD 17 0
theorem gone_e {N : List Nat} : gone N = N.getD 11 0 + N.getD 12 0 + N.getD 13 0 + N.getD 14 0 + N.getD 15 0 + N.getD 16 0 + N.getD 17 0 := by
  show 0 + N.getD 11 0 + N.getD 12 0 + N.getD 13 0 + N.getD 14 0 + N.getD 15 0 + N.getD 16 0 + N.getD 17 0 = _
  omega
theorem gone_let {N : List Nat} {u : Nat} (hN : N.length = 18) : gone (letN N u) ≤ gone N + 75 := by
  rw [gone_e, gone_e]
  obtain ⟨a0, a1, a2, a3, a4, a5, a6, a7, a8, a9, a10, a11, a12, a13, a14, a15, a16, a17, rfl⟩ := ex18 hN
  unfold letN
  rw [lfN_ex]
  have h0 := pop15 (bitsN (fallM u) 0)
  have h1 := pop15 (bitsN (fallM u) 1)
  have h2 := pop15 (bitsN (fallM u) 2)
  have h3 := pop15 (bitsN (fallM u) 3)
  have h4 := pop15 (bitsN (fallM u) 4)
  show a11 + pop (bitsN (fallM u) 0) + (a12 + pop (bitsN (fallM u) 1)) + (a13 + pop (bitsN (fallM u) 2)) + (a14 + pop (bitsN (fallM u) 3)) + (a15 + pop (bitsN (fallM u) 4)) + a16 + a17 ≤ a11 + a12 + a13 + a14 + a15 + a16 + a17 + 75
  omega
theorem gone_steal {N : List Nat} {r b : Nat} (ok : stN N) (hr : r < 5) (hb : b ≤ 5) : gone (stealN N r b) ≤ gone N + 100 := by
  have hN := ok.1
  have h1 := ok.2.2.1
  unfold stealN
  refine Nat.le_trans (gone_let (by simp only [List.length_set]; exact hN)) ?_
  rw [gone_e, gone_e]
  obtain ⟨a0, a1, a2, a3, a4, a5, a6, a7, a8, a9, a10, a11, a12, a13, a14, a15, a16, a17, rfl⟩ := ex18 hN
  have e1 : a1 = 0 ∨ a1 = 1 := by
    have : a1 < 2 := h1
    omega
  have e2 : r = 0 ∨ r = 1 ∨ r = 2 ∨ r = 3 ∨ r = 4 := by omega
  rcases e1 with rfl | rfl <;> rcases e2 with rfl | rfl | rfl | rfl | rfl
  · show a11 + a12 + a13 + a14 + a15 + (a16 + b) + a17 + 75 ≤ a11 + a12 + a13 + a14 + a15 + a16 + a17 + 100; omega
  · show a11 + a12 + a13 + a14 + a15 + (a16 + b) + a17 + 75 ≤ a11 + a12 + a13 + a14 + a15 + a16 + a17 + 100; omega
  · show a11 + a12 + a13 + a14 + a15 + (a16 + b) + a17 + 75 ≤ a11 + a12 + a13 + a14 + a15 + a16 + a17 + 100; omega
  · show a11 + a12 + a13 + a14 + a15 + (a16 + b) + a17 + 75 ≤ a11 + a12 + a13 + a14 + a15 + a16 + a17 + 100; omega
  · show a11 + a12 + a13 + a14 + a15 + (a16 + b) + a17 + 75 ≤ a11 + a12 + a13 + a14 + a15 + a16 + a17 + 100; omega
  · show a11 + a12 + a13 + a14 + a15 + a16 + (a17 + b) + 75 ≤ a11 + a12 + a13 + a14 + a15 + a16 + a17 + 100; omega
  · show a11 + a12 + a13 + a14 + a15 + a16 + (a17 + b) + 75 ≤ a11 + a12 + a13 + a14 + a15 + a16 + a17 + 100; omega
  · show a11 + a12 + a13 + a14 + a15 + a16 + (a17 + b) + 75 ≤ a11 + a12 + a13 + a14 + a15 + a16 + a17 + 100; omega
  · show a11 + a12 + a13 + a14 + a15 + a16 + (a17 + b) + 75 ≤ a11 + a12 + a13 + a14 + a15 + a16 + a17 + 100; omega
  · show a11 + a12 + a13 + a14 + a15 + a16 + (a17 + b) + 75 ≤ a11 + a12 + a13 + a14 + a15 + a16 + a17 + 100; omega
theorem gone_knock {N : List Nat} {r p : Nat} (hN : N.length = 18) (hr : r < 5) : gone (knockN N r p) ≤ gone N + 100 := by
  unfold knockN
  refine Nat.le_trans (gone_let (List.length_set.trans hN)) ?_
  rw [gone_e, gone_e]
  obtain ⟨a0, a1, a2, a3, a4, a5, a6, a7, a8, a9, a10, a11, a12, a13, a14, a15, a16, a17, rfl⟩ := ex18 hN
  have e2 : r = 0 ∨ r = 1 ∨ r = 2 ∨ r = 3 ∨ r = 4 := by omega
  rcases e2 with rfl | rfl | rfl | rfl | rfl
  · show a11 + 1 + a12 + a13 + a14 + a15 + a16 + a17 + 75 ≤ a11 + a12 + a13 + a14 + a15 + a16 + a17 + 100; omega
  · show a11 + (a12 + 1) + a13 + a14 + a15 + a16 + a17 + 75 ≤ a11 + a12 + a13 + a14 + a15 + a16 + a17 + 100; omega
  · show a11 + a12 + (a13 + 1) + a14 + a15 + a16 + a17 + 75 ≤ a11 + a12 + a13 + a14 + a15 + a16 + a17 + 100; omega
  · show a11 + a12 + a13 + (a14 + 1) + a15 + a16 + a17 + 75 ≤ a11 + a12 + a13 + a14 + a15 + a16 + a17 + 100; omega
  · show a11 + a12 + a13 + a14 + (a15 + 1) + a16 + a17 + 75 ≤ a11 + a12 + a13 + a14 + a15 + a16 + a17 + 100; omega
theorem gone_set {N : List Nat} {k a : Nat} (hk : k < 11) : gone (N.set k a) = gone N := by
  rw [gone_e, gone_e, gs_ne (by omega), gs_ne (by omega), gs_ne (by omega), gs_ne (by omega), gs_ne (by omega), gs_ne (by omega), gs_ne (by omega)]
/-- a row of numbers that the class may have, with its bound -/
def okG (c : Nat) (N : List Nat) : Prop := stN N ∧ shp (N.getD 0 0) ∧ gone N ≤ c
theorem sh_let {N : List Nat} {u : Nat} (hN : N.length = 18) : (letN N u).getD 0 0 = settledN u := letN_0 N u hN
theorem okG_steal {c : Nat} {N : List Nat} {r b : Nat} (ok : okG c N) (hr : r < 5) (hb : 1 ≤ b) (hb5 : b ≤ 5) (h : ¬ pop (bitsN (N.getD 0 0) r) < b) : okG (c + 100) (stealN N r b) := by
  obtain ⟨o1, o2, o3⟩ := ok
  obtain ⟨k1, k2, ⟨k3, k4, k5⟩, k6, k7⟩ := rR_yes o2 o1.2.2.1 hr hb hb5 h
  refine ⟨st_steal o1 hr, ?_, Nat.le_trans (gone_steal o1 hr hb5) (by omega)⟩
  unfold stealN
  rw [sh_let (by simp only [List.length_set]; exact o1.1), k2, k3]
  exact k5
theorem okG_knock {c : Nat} {N : List Nat} {r p : Nat} (ok : okG c N) (hr : r < 5) (hp : p < 5 - r) (h : hasN (N.getD 0 0) r p = true) : okG (c + 100) (knockN N r p) := by
  obtain ⟨o1, o2, o3⟩ := ok
  obtain ⟨k1, k2, k3, k4⟩ := rK o2 hr hp h
  refine ⟨st_knock o1, ?_, Nat.le_trans (gone_knock o1.1 hr) (by omega)⟩
  unfold knockN
  rw [sh_let (List.length_set.trans o1.1)]
  show shp (settledN (kncU (N.getD 0 0) r p))
  rw [k1]
  exact k3
theorem okG_put {c : Nat} {N : List Nat} {r p : Nat} (ok : okG c N) (hr : r < 5) (hp : p < 5 - r) (h : hasRoomN (N.getD 0 0) r p = true) : okG c (N.set 0 (N.getD 0 0 ||| 1 <<< (rsN r + p))) := by
  obtain ⟨o1, o2, o3⟩ := ok
  refine ⟨st_put o1 hr hp, ?_, by rw [gone_set (by decide)]; exact o3⟩
  rw [gs_eq (by have := o1.1; omega)]
  exact rP o2 hr hp h
theorem okG_swap {c : Nat} {N : List Nat} (ok : okG c N) : okG c (swapN N) := by
  obtain ⟨o1, o2, o3⟩ := ok
  refine ⟨st_swap o1, ?_, by unfold swapN; rw [gone_set (by decide), gone_set (by decide)]; exact o3⟩
  unfold swapN
  rw [gs_ne (by decide), gs_eq (by have := o1.1; omega)]
  exact (rM o2).1
theorem okG_fill {c : Nat} {N : List Nat} (ok : okG c N) : okG c (fillN N) := by
  obtain ⟨o1, o2, o3⟩ := ok
  refine ⟨st_fill o1, ?_, by unfold fillN; rw [gone_set (by decide), gone_set (by decide)]; exact o3⟩
  unfold fillN
  rw [gs_ne (by decide), gs_eq (by have := o1.1; omega)]
  exact shp_full
def od5 (c r b : Nat) : Prop := (c = 116 ∧ r < 5 ∧ 1 ≤ b ∧ b ≤ 3) ∨ ((c = 107 ∨ c = 112) ∧ r < 5 ∧ b < 5 - r) ∨ c = 109 ∨ c = 114
theorem do_rel {g : Nat} {N : List Nat} {c f n r b : Nat} (ok : okG g N) (h : od5 c r b) (hf : c = 116 ∨ c = 107 ∨ c = 112 → f = r ∧ n = b) :
    (doN N c f n = none ∧ dsM (mOf N) c r b = (false, mOf N)) ∨ ∃ N', doN N c f n = some N' ∧ dsM (mOf N) c r b = (true, mOf N') ∧ okG (g + 100) N' := by
  have e0 : (mOf N).getD 0 0 = N.getD 0 0 := rfl
  have e1 : (mOf N).getD 1 0 = N.getD 1 0 := rfl
  have hN := ok.1.1
  have lift : ∀ N', okG g N' → okG (g + 100) N' := fun N' q => ⟨q.1, q.2.1, by have := q.2.2; omega⟩
  rcases h with ⟨rfl, hr, hb1, hb3⟩ | ⟨hc, hr, hb⟩ | rfl | rfl
  · obtain ⟨rfl, rfl⟩ := hf (Or.inl rfl)
    have d1 : doN N 116 f n = if rsnN N f n = 0 then some (stealN N f n) else none := rfl
    have d2 : dsM (mOf N) 116 f n = if mrsN (mOf N) (N.getD 0 0) (N.getD 1 0) f n = 0 then (true, takM (mOf N) f n) else (false, mOf N) := rfl
    rw [d1, d2, ← rsn_rel ok.1 ok.2.1 hr hb1 (by omega)]
    by_cases z : rsnN N f n = 0
    · have hz := rsn_bits ok.1 ok.2.1 hr hb1 (by omega) z
      rw [if_pos z, if_pos z, ← steal_rel ok.1 ok.2.1 hr hb1 (by omega) hz]
      exact Or.inr ⟨_, rfl, rfl, okG_steal ok hr hb1 (by omega) hz⟩
    · rw [if_neg z, if_neg z]
      exact Or.inl ⟨rfl, rfl⟩
  · rcases hc with rfl | rfl
    · obtain ⟨rfl, rfl⟩ := hf (Or.inr (Or.inl rfl))
      have d1 : doN N 107 f n = if hasN (N.getD 0 0) f n = true then some (knockN N f n) else none := rfl
      have d2 : dsM (mOf N) 107 f n = if hasN (N.getD 0 0) f n = true then (true, kncM (mOf N) f n) else (false, mOf N) := rfl
      rw [d1, d2]
      by_cases z : hasN (N.getD 0 0) f n = true
      · rw [if_pos z, if_pos z, ← knock_rel ok.1 ok.2.1 hr hb z]
        exact Or.inr ⟨_, rfl, rfl, okG_knock ok hr hb z⟩
      · rw [if_neg z, if_neg z]
        exact Or.inl ⟨rfl, rfl⟩
    · obtain ⟨rfl, rfl⟩ := hf (Or.inr (Or.inr rfl))
      have d1 : doN N 112 f n = if hasRoomN (N.getD 0 0) f n = true then some (N.set 0 (N.getD 0 0 ||| 1 <<< (rsN f + n))) else none := rfl
      have d2 : dsM (mOf N) 112 f n = if hasRoomN (N.getD 0 0) f n = true then (true, (mOf N).set 0 (N.getD 0 0 ||| 1 <<< (rsN f + n))) else (false, mOf N) := rfl
      rw [d1, d2]
      by_cases z : hasRoomN (N.getD 0 0) f n = true
      · rw [if_pos z, if_pos z, ← set0_rel hN]
        exact Or.inr ⟨_, rfl, rfl, lift _ (okG_put ok hr hb z)⟩
      · rw [if_neg z, if_neg z]
        exact Or.inl ⟨rfl, rfl⟩
  · refine Or.inr ⟨swapN N, rfl, ?_, lift _ (okG_swap ok)⟩
    have d2 : dsM (mOf N) 109 r b = (true, ((mOf N).set 0 (mirN (N.getD 0 0))).set 1 (1 - N.getD 1 0)) := rfl
    unfold swapN
    rw [d2, set1_rel (List.length_set.trans hN), set0_rel hN]
  · refine Or.inr ⟨fillN N, rfl, ?_, lift _ (okG_fill ok)⟩
    have d2 : dsM (mOf N) 114 r b = (true, ((mOf N).set 0 32767).set 1 0) := rfl
    unfold fillN
    rw [d2, set1_rel (List.length_set.trans hN), set0_rel hN]
theorem dor_let {T : List Nat} {len i dn l f n : Nat} {N : List Nat} (h : i < len) (h1 : ¬ ltr T len i = 59) (h2 : ¬ (48 ≤ ltr T len i ∧ ltr T len i ≤ 52)) : dOr T len (len + 1 - i) i dn l f n N = dOr T len (len + 1 - (i + 1)) (i + 1) dn (ltr T len i) f n N := by
  have e : len + 1 - i = len + 1 - (i + 1) + 1 := by omega
  have el : (if i < len then T.getD i 0 else 59) = ltr T len i := by unfold ltr; rw [if_pos h, if_pos h]
  rw [e, dOr, el, if_neg h1, if_neg h2]
theorem dor_dig {T : List Nat} {len i dn l f n : Nat} {N : List Nat} (h : i < len) (h2 : 48 ≤ ltr T len i ∧ ltr T len i ≤ 52) : dOr T len (len + 1 - i) i dn l f n N = dOr T len (len + 1 - (i + 1)) (i + 1) dn l n (ltr T len i - 48) N := by
  have e : len + 1 - i = len + 1 - (i + 1) + 1 := by omega
  have el : (if i < len then T.getD i 0 else 59) = ltr T len i := by unfold ltr; rw [if_pos h, if_pos h]
  rw [e, dOr, el, if_neg (by omega), if_pos h2]
theorem dor_sep {T : List Nat} {len i dn l f n : Nat} {N : List Nat} (h : i ≤ len) (h1 : i < len → ltr T len i = 59) : dOr T len (len + 1 - i) i dn l f n N = (match doN N l f n with
      | none => (dn, N)
      | some N' => dOr T len (len + 1 - (i + 1)) (i + 1) (dn + 1) l f n N') := by
  have e : len + 1 - i = len + 1 - (i + 1) + 1 := by omega
  have el : (if i < len then T.getD i 0 else 59) = 59 := by
    by_cases z : i < len
    · rw [if_pos z]
      have := h1 z
      unfold ltr at this
      rw [if_pos z] at this
      exact this
    · rw [if_neg z]
  rw [e, dOr, el, if_pos rfl]
  cases doN N l f n <;> rfl
theorem ord_rel {T : List Nat} {len p k : Nat} {O : List Nat} (hp : p ≤ len) (hO : O.length = 120) (hk : k ≤ 30) (hb : (rdM T len p k O).1 = true) (dn l f n : Nat) (N : List Nat) :
    ∃ f' n', dOr T len (len + 1 - p) p dn l f n N = dOr T len (len + 1 - (rdM T len p k O).2.1) (rdM T len p k O).2.1 dn ((rdM T len p k O).2.2.getD (3 * k) 0) f' n' N ∧
      od5 ((rdM T len p k O).2.2.getD (3 * k) 0) ((rdM T len p k O).2.2.getD (3 * k + 1) 0) ((rdM T len p k O).2.2.getD (3 * k + 2) 0) ∧
      (((rdM T len p k O).2.2.getD (3 * k) 0 = 116 ∨ (rdM T len p k O).2.2.getD (3 * k) 0 = 107 ∨ (rdM T len p k O).2.2.getD (3 * k) 0 = 112) → f' = (rdM T len p k O).2.2.getD (3 * k + 1) 0 ∧ n' = (rdM T len p k O).2.2.getD (3 * k + 2) 0) := by
  unfold rdM at hb ⊢
  have l1 : ∀ a, (O.set (3 * k) a).length = 120 := fun a => List.length_set.trans hO
  have g1 : ∀ a, (O.set (3 * k) a).getD (3 * k) 0 = a := fun a => gs_eq (by omega)
  have g3 : ∀ a b c, (((O.set (3 * k) a).set (3 * k + 1) b).set (3 * k + 2) c).getD (3 * k) 0 = a := fun a b c => by rw [gs_ne (by omega), gs_ne (by omega), g1]
  have g4 : ∀ a b c, (((O.set (3 * k) a).set (3 * k + 1) b).set (3 * k + 2) c).getD (3 * k + 1) 0 = b := fun a b c => by rw [gs_ne (by omega), gs_eq (by rw [l1]; omega)]
  have g5 : ∀ a b c, (((O.set (3 * k) a).set (3 * k + 1) b).set (3 * k + 2) c).getD (3 * k + 2) 0 = c := fun a b c => by rw [gs_eq (by rw [List.length_set, l1]; omega)]
  by_cases e1 : ltr T len p = 109 ∨ ltr T len p = 114
  · rw [if_pos e1] at hb ⊢
    have hl := (ltr_in (T := T) (len := len) (at' := p) (by omega)).1
    dsimp only
    rw [g1]
    exact ⟨f, n, dor_let hl (by omega) (by omega), Or.inr (Or.inr e1), fun q => by omega⟩
  rw [if_neg e1] at hb ⊢
  by_cases e2 : ltr T len p = 116 ∨ ltr T len p = 107 ∨ ltr T len p = 112
  · rw [if_pos e2] at hb ⊢
    have hl := (ltr_in (T := T) (len := len) (at' := p) (by omega)).1
    by_cases e3 : 48 ≤ ltr T len (p + 1) ∧ ltr T len (p + 1) ≤ 52
    · rw [if_pos e3] at hb ⊢
      have hl1 := (ltr_in (T := T) (len := len) (at' := p + 1) (by omega)).1
      by_cases P : (if ltr T len p = 116 then 49 ≤ ltr T len (p + 2) ∧ ltr T len (p + 2) ≤ 51 else 48 ≤ ltr T len (p + 2) ∧ ltr T len (p + 2) ≤ 52 - (ltr T len (p + 1) - 48))
      · rw [if_pos P]
        have P2 : 48 ≤ ltr T len (p + 2) ∧ ltr T len (p + 2) ≤ 52 ∧ (ltr T len p = 116 → 49 ≤ ltr T len (p + 2) ∧ ltr T len (p + 2) ≤ 51) ∧ (¬ ltr T len p = 116 → ltr T len (p + 2) ≤ 52 - (ltr T len (p + 1) - 48)) := by
          by_cases w : ltr T len p = 116
          · rw [if_pos w] at P
            exact ⟨by omega, by omega, fun _ => P, fun q => (q w).elim⟩
          · rw [if_neg w] at P
            exact ⟨by omega, by omega, fun q => (w q).elim, fun _ => P.2⟩
        have hl2 := (ltr_in (T := T) (len := len) (at' := p + 2) (by omega)).1
        dsimp only
        rw [g3, g4, g5]
        refine ⟨ltr T len (p + 1) - 48, ltr T len (p + 2) - 48, ?_, ?_, fun _ => ⟨rfl, rfl⟩⟩
        · rw [dor_let hl (by omega) (by omega), dor_dig hl1 e3, dor_dig hl2 ⟨P2.1, P2.2.1⟩]
        · unfold od5
          by_cases w : ltr T len p = 116
          · have := P2.2.2.1 w
            exact Or.inl ⟨w, by omega, by omega, by omega⟩
          · have := P2.2.2.2 w
            exact Or.inr (Or.inl ⟨by omega, by omega, by omega⟩)
      · rw [if_neg P] at hb
        exact Bool.noConfusion hb
    · rw [if_neg e3] at hb
      exact Bool.noConfusion hb
  · rw [if_neg e2] at hb
    exact Bool.noConfusion hb
