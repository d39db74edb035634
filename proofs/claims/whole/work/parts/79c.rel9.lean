/-! class and model: the same text -/
theorem fe_step {T : List Nat} {len a : Nat} {s : Option Nat} (h : a < len) : feN T (len - a) a s = if nxB s (ltr T len a) = none then a else feN T (len - (a + 1)) (a + 1) (nxB s (ltr T len a)) := by
  have e : len - a = len - (a + 1) + 1 := by omega
  have el : ltr T len a = T.getD a 0 := by unfold ltr; rw [if_pos h]
  rw [e, feN, el]
theorem fe_end {T : List Nat} {len a : Nat} {s : Option Nat} (h : len ≤ a) : feN T (len - a) a s = a := by
  rw [show len - a = 0 by omega, feN]
theorem rd_step {T : List Nat} {len a : Nat} {s : Option Nat} (h : a < len) : rdN T (len - a) a s = rdN T (len - (a + 1)) (a + 1) (nxB s (ltr T len a)) := by
  have e : len - a = len - (a + 1) + 1 := by omega
  have el : ltr T len a = T.getD a 0 := by unfold ltr; rw [if_pos h]
  rw [e, rdN, el]
theorem rd_end {T : List Nat} {len a : Nat} {s : Option Nat} (h : len ≤ a) : rdN T (len - a) a s = s := by
  rw [show len - a = 0 by omega, rdN]
theorem rd_none (T : List Nat) : ∀ (j a : Nat), rdN T j a none = none
  | 0, _ => rfl
  | j + 1, a => rd_none T j (a + 1)
/-- where an error stands: no step on, or the end of the text -/
theorem st_err {T : List Nat} {len a s : Nat} (ha : a ≤ len) (h : a < len → nxN s (ltr T len a) = none) (hs : s ≠ 1) : feN T (len - a) a (some s) = a ∧ ¬ rdN T (len - a) a (some s) = some 1 := by
  by_cases z : a < len
  · have e : nxB (some s) (ltr T len a) = none := h z
    rw [fe_step z, rd_step z, e, if_pos rfl, rd_none]
    exact ⟨rfl, nofun⟩
  · rw [fe_end (by omega), rd_end (by omega)]
    exact ⟨rfl, fun q => hs (Option.some.inj q)⟩
theorem st_go {T : List Nat} {len a s s' : Nat} (h : a < len) (e : nxN s (ltr T len a) = some s') : feN T (len - a) a (some s) = feN T (len - (a + 1)) (a + 1) (some s') ∧ rdN T (len - a) a (some s) = rdN T (len - (a + 1)) (a + 1) (some s') := by
  have e2 : nxB (some s) (ltr T len a) = some s' := e
  rw [fe_step h, rd_step h, e2, if_neg nofun]
  exact ⟨rfl, rfl⟩
theorem nx_2 {c : Nat} : nxN 2 c = if 48 ≤ c ∧ c ≤ 52 then some 4 else none := by
  show (if digB c 0 4 = true then some 4 else none) = _
  unfold digB
  simp only [Bool.and_eq_true, decide_eq_true_eq, Nat.add_zero, Nat.reduceAdd]
theorem nx_3 {c : Nat} : nxN 3 c = if 48 ≤ c ∧ c ≤ 52 then some (10 + (c - 48)) else none := by
  show (if digB c 0 4 = true then some (10 + (c - 48)) else none) = _
  unfold digB
  simp only [Bool.and_eq_true, decide_eq_true_eq, Nat.add_zero, Nat.reduceAdd]
theorem nx_4 {c : Nat} : nxN 4 c = if 49 ≤ c ∧ c ≤ 51 then some 1 else none := by
  show (if digB c 1 3 = true then some 1 else none) = _
  unfold digB
  simp only [Bool.and_eq_true, decide_eq_true_eq, Nat.reduceAdd]
theorem nx_10 {c d : Nat} (hd : d ≤ 4) : nxN (10 + d) c = if 48 ≤ c ∧ c ≤ 52 - d then some 1 else none := by
  have : d = 0 ∨ d = 1 ∨ d = 2 ∨ d = 3 ∨ d = 4 := by omega
  rcases this with rfl | rfl | rfl | rfl | rfl
  · show (if digB c 0 4 = true then some 1 else none) = _
    unfold digB
    simp only [Bool.and_eq_true, decide_eq_true_eq, Nat.add_zero, Nat.reduceAdd, Nat.reduceSub]
  · show (if digB c 0 3 = true then some 1 else none) = _
    unfold digB
    simp only [Bool.and_eq_true, decide_eq_true_eq, Nat.add_zero, Nat.reduceAdd, Nat.reduceSub]
  · show (if digB c 0 2 = true then some 1 else none) = _
    unfold digB
    simp only [Bool.and_eq_true, decide_eq_true_eq, Nat.add_zero, Nat.reduceAdd, Nat.reduceSub]
  · show (if digB c 0 1 = true then some 1 else none) = _
    unfold digB
    simp only [Bool.and_eq_true, decide_eq_true_eq, Nat.add_zero, Nat.reduceAdd, Nat.reduceSub]
  · show (if digB c 0 0 = true then some 1 else none) = _
    unfold digB
    simp only [Bool.and_eq_true, decide_eq_true_eq, Nat.add_zero, Nat.reduceAdd, Nat.reduceSub]
theorem nx_0n {c : Nat} (h1 : ¬ (c = 109 ∨ c = 114)) (h2 : ¬ (c = 116 ∨ c = 107 ∨ c = 112)) : nxN 0 c = none := by
  show (if c = 116 then some 2 else if c = 107 ∨ c = 112 then some 3 else if c = 109 ∨ c = 114 then some 1 else none) = none
  rw [if_neg (by omega), if_neg (by omega), if_neg h1]
theorem nx_0e {c : Nat} (h : c = 109 ∨ c = 114) : nxN 0 c = some 1 := by
  show (if c = 116 then some 2 else if c = 107 ∨ c = 112 then some 3 else if c = 109 ∨ c = 114 then some 1 else none) = some 1
  rw [if_neg (by omega), if_neg (by omega), if_pos h]
theorem nx_0k {c : Nat} (h : c = 107 ∨ c = 112) : nxN 0 c = some 3 := by
  show (if c = 116 then some 2 else if c = 107 ∨ c = 112 then some 3 else if c = 109 ∨ c = 114 then some 1 else none) = some 3
  rw [if_neg (by omega), if_pos h]
theorem nx_1n {c : Nat} (h : ¬ c = 59) : nxN 1 c = none := by
  show (if c = 59 then some 0 else none) = none
  rw [if_neg h]
/-- a part of the text read by both -/
theorem rd_rel {T : List Nat} {len p m : Nat} {O : List Nat} (hp : p ≤ len) :
    ((rdM T len p m O).1 = true → (rdM T len p m O).2.1 ≤ len ∧ feN T (len - p) p (some 0) = feN T (len - (rdM T len p m O).2.1) (rdM T len p m O).2.1 (some 1) ∧ rdN T (len - p) p (some 0) = rdN T (len - (rdM T len p m O).2.1) (rdM T len p m O).2.1 (some 1)) ∧
    ((rdM T len p m O).1 = false → feN T (len - p) p (some 0) = (rdM T len p m O).2.1 ∧ ¬ rdN T (len - p) p (some 0) = some 1) := by
  unfold rdM
  by_cases e1 : ltr T len p = 109 ∨ ltr T len p = 114
  · rw [if_pos e1]
    have hl := (ltr_in (T := T) (len := len) (at' := p) (by omega)).1
    obtain ⟨g1, g2⟩ := st_go hl (nx_0e e1)
    exact ⟨fun _ => ⟨hl, g1, g2⟩, fun q => Bool.noConfusion q⟩
  rw [if_neg e1]
  by_cases e2 : ltr T len p = 116 ∨ ltr T len p = 107 ∨ ltr T len p = 112
  · rw [if_pos e2]
    have hl := (ltr_in (T := T) (len := len) (at' := p) (by omega)).1
    have h0 : ∃ s, nxN 0 (ltr T len p) = some s ∧ ((ltr T len p = 116 ∧ s = 2) ∨ (¬ ltr T len p = 116 ∧ s = 3)) := by
      by_cases w : ltr T len p = 116
      · rw [w]
        exact ⟨2, rfl, Or.inl ⟨rfl, rfl⟩⟩
      · exact ⟨3, nx_0k (by omega), Or.inr ⟨w, rfl⟩⟩
    obtain ⟨s, hs, hs2⟩ := h0
    obtain ⟨g1, g2⟩ := st_go hl hs
    by_cases e3 : 48 ≤ ltr T len (p + 1) ∧ ltr T len (p + 1) ≤ 52
    · rw [if_pos e3]
      have hl1 := (ltr_in (T := T) (len := len) (at' := p + 1) (by omega)).1
      have h1 : ∃ s', nxN s (ltr T len (p + 1)) = some s' ∧ ¬ s' = 1 ∧ nxN s' (ltr T len (p + 2)) = if (if ltr T len p = 116 then 49 ≤ ltr T len (p + 2) ∧ ltr T len (p + 2) ≤ 51 else 48 ≤ ltr T len (p + 2) ∧ ltr T len (p + 2) ≤ 52 - (ltr T len (p + 1) - 48)) then some 1 else none := by
        rcases hs2 with ⟨w, rfl⟩ | ⟨w, rfl⟩
        · refine ⟨4, by rw [nx_2, if_pos e3], by decide, ?_⟩
          simp only [w, if_true]
          exact nx_4
        · refine ⟨10 + (ltr T len (p + 1) - 48), by rw [nx_3, if_pos e3], by omega, ?_⟩
          simp only [w, if_false]
          exact nx_10 (by omega)
      obtain ⟨s', h1a, h1b, h1c⟩ := h1
      obtain ⟨k1, k2⟩ := st_go hl1 h1a
      by_cases P : (if ltr T len p = 116 then 49 ≤ ltr T len (p + 2) ∧ ltr T len (p + 2) ≤ 51 else 48 ≤ ltr T len (p + 2) ∧ ltr T len (p + 2) ≤ 52 - (ltr T len (p + 1) - 48))
      · rw [if_pos P]
        rw [if_pos P] at h1c
        have hz : 0 < ltr T len (p + 2) := by
          by_cases w : ltr T len p = 116
          · rw [if_pos w] at P
            omega
          · rw [if_neg w] at P
            omega
        have hl2 := (ltr_in hz).1
        obtain ⟨j1, j2⟩ := st_go hl2 h1c
        exact ⟨fun _ => ⟨hl2, g1.trans (k1.trans j1), g2.trans (k2.trans j2)⟩, fun q => Bool.noConfusion q⟩
      · rw [if_neg P]
        rw [if_neg P] at h1c
        obtain ⟨j1, j2⟩ := st_err (a := p + 2) (by omega) (fun _ => h1c) h1b
        exact ⟨fun q => Bool.noConfusion q, fun _ => ⟨g1.trans (k1.trans j1), by rw [g2, k2]; exact j2⟩⟩
    · rw [if_neg e3]
      have h1 : nxN s (ltr T len (p + 1)) = none ∧ s ≠ 1 := by
        rcases hs2 with ⟨w, rfl⟩ | ⟨w, rfl⟩
        · exact ⟨by rw [nx_2, if_neg e3], by decide⟩
        · exact ⟨by rw [nx_3, if_neg e3], by decide⟩
      obtain ⟨j1, j2⟩ := st_err (a := p + 1) (by omega) (fun _ => h1.1) h1.2
      exact ⟨fun q => Bool.noConfusion q, fun _ => ⟨g1.trans j1, by rw [g2]; exact j2⟩⟩
  · rw [if_neg e2]
    obtain ⟨j1, j2⟩ := st_err (T := T) (a := p) (s := 0) hp (fun _ => nx_0n e1 e2) (by decide)
    exact ⟨fun q => Bool.noConfusion q, fun _ => ⟨j1, j2⟩⟩
theorem ic_rel (T : List Nat) (len : Nat) : ∀ (j a m : Nat) (O : List Nat), a ≤ len → len ≤ a + j → (icM T len j true a m O).2.1 = feN T (len - a) a (some 1) ∧ ((icM T len j true a m O).1 = true ↔ rdN T (len - a) a (some 1) = some 1)
  | 0, a, m, O, ha, hj => by
    rw [icM, fe_end (by omega), rd_end (by omega)]
    exact ⟨rfl, fun _ => rfl, fun _ => rfl⟩
  | j + 1, a, m, O, ha, hj => by
    rw [icM]
    by_cases z : a < len
    · rw [if_pos ⟨rfl, z⟩]
      by_cases c : ltr T len a = 59
      · rw [if_pos c]
        obtain ⟨g1, g2⟩ := st_go (s := 1) (s' := 0) z (by rw [c]; rfl)
        obtain ⟨r1, r2⟩ := rd_rel (T := T) (len := len) (p := a + 1) (m := m) (O := O) z
        have r3 := rdM_at T len (a + 1) m O
        rw [g1, g2]
        generalize rdM T len (a + 1) m O = r at *
        obtain ⟨b, q, O'⟩ := r
        dsimp only at *
        cases b
        · obtain ⟨x1, x2⟩ := r2 rfl
          have e : ∀ j, icM T len j false q (if false = true then m + 1 else m) O' = (false, q, (if false = true then m + 1 else m), O') := by
            intro j
            cases j with
            | zero => rfl
            | succ j => rw [icM, if_neg (fun w => Bool.noConfusion w.1)]
          rw [e, x1]
          exact ⟨rfl, fun w => Bool.noConfusion w, fun w => (x2 w).elim⟩
        · obtain ⟨x0, x1, x2⟩ := r1 rfl
          have r4 := r3.2.2 rfl
          rw [x1, x2]
          exact ic_rel T len j q _ O' x0 (by omega)
      · rw [if_neg c]
        obtain ⟨x1, x2⟩ : feN T (len - a) a (some 1) = a ∧ rdN T (len - a) a (some 1) = none := by
          have e : nxB (some 1) (ltr T len a) = none := nx_1n c
          rw [fe_step z, rd_step z, e, if_pos rfl, rd_none]
          exact ⟨rfl, rfl⟩
        rw [x1, x2]
        exact ⟨rfl, fun w => Bool.noConfusion w, fun w => nomatch w⟩
    · rw [if_neg (fun w => z w.2), fe_end (by omega), rd_end (by omega)]
      exact ⟨rfl, fun _ => rfl, fun _ => rfl⟩
theorem text_rel {T : List Nat} {len : Nat} (O : List Nat) (hl : len ≤ 60) : (icF T len O).2.1 = feN T len 0 (some 0) ∧ ((icF T len O).1 = true ↔ rdN T len 0 (some 0) = some 1) := by
  obtain ⟨r1, r2⟩ := rd_rel (T := T) (len := len) (p := 0) (m := 0) (O := O) (Nat.zero_le _)
  have e0 : len - 0 = len := rfl
  rw [e0] at r1 r2
  unfold icF
  generalize rdM T len 0 0 O = r at *
  obtain ⟨b, q, O'⟩ := r
  dsimp only at *
  cases b
  · obtain ⟨x1, x2⟩ := r2 rfl
    rw [icM, if_neg (fun w => Bool.noConfusion w.1), x1]
    exact ⟨rfl, fun w => Bool.noConfusion w, fun w => (x2 w).elim⟩
  · obtain ⟨x0, x1, x2⟩ := r1 rfl
    rw [x1, x2]
    exact ic_rel T len 61 q _ O' x0 (by omega)
