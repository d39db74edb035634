/-! class and model: obey -/
theorem rdM_low {T : List Nat} {len p m : Nat} {O : List Nat} {x : Nat} (h : x < 3 * m) : (rdM T len p m O).2.2.getD x 0 = O.getD x 0 := by
  have s1 : ∀ a, (O.set (3 * m) a).getD x 0 = O.getD x 0 := fun a => gs_ne (by omega)
  have s3 : ∀ a b c, (((O.set (3 * m) a).set (3 * m + 1) b).set (3 * m + 2) c).getD x 0 = O.getD x 0 := fun a b c => by rw [gs_ne (by omega), gs_ne (by omega), s1]
  unfold rdM
  by_cases e1 : ltr T len p = 109 ∨ ltr T len p = 114
  · rw [if_pos e1]; exact s1 _
  rw [if_neg e1]
  by_cases e2 : ltr T len p = 116 ∨ ltr T len p = 107 ∨ ltr T len p = 112
  · rw [if_pos e2]
    by_cases e3 : 48 ≤ ltr T len (p + 1) ∧ ltr T len (p + 1) ≤ 52
    · rw [if_pos e3]
      by_cases P : (if ltr T len p = 116 then 49 ≤ ltr T len (p + 2) ∧ ltr T len (p + 2) ≤ 51 else 48 ≤ ltr T len (p + 2) ∧ ltr T len (p + 2) ≤ 52 - (ltr T len (p + 1) - 48))
      · rw [if_pos P]; exact s3 _ _ _
      · rw [if_neg P]; exact s3 _ _ _
    · rw [if_neg e3]; exact s1 _
  · rw [if_neg e2]; exact s1 _
theorem icM_low (T : List Nat) (len : Nat) : ∀ (j : Nat) (b : Bool) (a m : Nat) (O : List Nat), m ≤ (icM T len j b a m O).2.2.1 ∧ ∀ x, x < 3 * m → (icM T len j b a m O).2.2.2.getD x 0 = O.getD x 0
  | 0, b, a, m, O => ⟨Nat.le_refl _, fun _ _ => rfl⟩
  | j + 1, b, a, m, O => by
    rw [icM]
    by_cases z : b = true ∧ a < len
    · rw [if_pos z]
      by_cases c : ltr T len a = 59
      · rw [if_pos c]
        have ih := icM_low T len j (rdM T len (a + 1) m O).1 (rdM T len (a + 1) m O).2.1 (if (rdM T len (a + 1) m O).1 = true then m + 1 else m) (rdM T len (a + 1) m O).2.2
        have hm : m ≤ (if (rdM T len (a + 1) m O).1 = true then m + 1 else m) := by split <;> omega
        exact ⟨Nat.le_trans hm ih.1, fun x hx => (ih.2 x (by omega)).trans (rdM_low hx)⟩
      · rw [if_neg c]
        exact ⟨Nat.le_refl _, fun _ _ => rfl⟩
    · rw [if_neg z]
      exact ⟨Nat.le_refl _, fun _ _ => rfl⟩
theorem okG_le {g g' : Nat} {N : List Nat} (h : okG g N) (hg : g ≤ g') : okG g' N := ⟨h.1, h.2.1, Nat.le_trans h.2.2 hg⟩
/-- the last order of the text done by both -/
theorem ob_last {T : List Nat} {len a k g : Nat} {O : List Nat} {c f n r b : Nat} {N : List Nat} (ha : a = len) (ok : okG g N) (h : od5 c r b) (hf : c = 116 ∨ c = 107 ∨ c = 112 → f = r ∧ n = b) (ec : O.getD (3 * k) 0 = c) (er : O.getD (3 * k + 1) 0 = r) (eb : O.getD (3 * k + 2) 0 = b) :
    (dOr T len (len + 1 - a) a k c f n N).1 = (obM O (k + 1 - k) k (mOf N)).1 ∧ mOf (dOr T len (len + 1 - a) a k c f n N).2 = (obM O (k + 1 - k) k (mOf N)).2 ∧ okG (g + 100 * (len + 1 - a)) (dOr T len (len + 1 - a) a k c f n N).2 := by
  subst ha
  have e1 : k + 1 - k = 0 + 1 := by omega
  rw [dor_sep (Nat.le_refl _) (fun q => absurd q (Nat.lt_irrefl _)), e1, obM, ec, er, eb]
  rcases do_rel ok h hf with ⟨x1, x2⟩ | ⟨N', x1, x2, x3⟩
  · rw [x1, x2]
    exact ⟨rfl, rfl, okG_le ok (by omega)⟩
  · rw [x1, x2]
    have e2 : a + 1 - (a + 1) = 0 := by omega
    have e3 : ∀ l f n, dOr T a (a + 1 - (a + 1)) (a + 1) (k + 1) l f n N' = (k + 1, N') := fun l f n => by rw [e2, dOr]
    show (dOr T a (a + 1 - (a + 1)) (a + 1) (k + 1) c f n N').1 = (k + 1, mOf N').1 ∧ mOf (dOr T a (a + 1 - (a + 1)) (a + 1) (k + 1) c f n N').2 = (k + 1, mOf N').2 ∧ okG (g + 100 * (a + 1 - a)) (dOr T a (a + 1 - (a + 1)) (a + 1) (k + 1) c f n N').2
    rw [e3]
    exact ⟨rfl, rfl, okG_le x3 (by omega)⟩
theorem ob_rel {T : List Nat} {len : Nat} (hl : len ≤ 60) : ∀ (j a k g : Nat) (O : List Nat) (c f n r b : Nat) (N : List Nat), a ≤ len → len ≤ a + j → O.length = 120 → 2 * (k + 1) ≤ a + 1 → (icM T len j true a (k + 1) O).1 = true →
    okG g N → od5 c r b → (c = 116 ∨ c = 107 ∨ c = 112 → f = r ∧ n = b) → O.getD (3 * k) 0 = c → O.getD (3 * k + 1) 0 = r → O.getD (3 * k + 2) 0 = b →
    (dOr T len (len + 1 - a) a k c f n N).1 = (obM (icM T len j true a (k + 1) O).2.2.2 ((icM T len j true a (k + 1) O).2.2.1 - k) k (mOf N)).1 ∧ mOf (dOr T len (len + 1 - a) a k c f n N).2 = (obM (icM T len j true a (k + 1) O).2.2.2 ((icM T len j true a (k + 1) O).2.2.1 - k) k (mOf N)).2 ∧ okG (g + 100 * (len + 1 - a)) (dOr T len (len + 1 - a) a k c f n N).2
  | 0, a, k, g, O, c, f, n, r, b, N, ha, hj, hO, hk, hb, ok, h, hf, ec, er, eb => ob_last (by omega) ok h hf ec er eb
  | j + 1, a, k, g, O, c, f, n, r, b, N, ha, hj, hO, hk, hb, ok, h, hf, ec, er, eb => by
    rw [icM] at hb ⊢
    by_cases z : a < len
    · rw [if_pos ⟨rfl, z⟩] at hb ⊢
      by_cases e : ltr T len a = 59
      · rw [if_pos e] at hb ⊢
        have rl : ∀ x, x < 3 * (k + 1) → (rdM T len (a + 1) (k + 1) O).2.2.getD x 0 = O.getD x 0 := fun x hx => rdM_low hx
        have ra := rdM_at T len (a + 1) (k + 1) O
        have rlen := rdM_len T len (a + 1) (k + 1) O hO
        have rr := (rd_rel (T := T) (len := len) (p := a + 1) (m := k + 1) (O := O) z).1
        have ro := fun q => ord_rel (T := T) (len := len) (p := a + 1) (k := k + 1) (O := O) z hO (by omega) q
        generalize rdM T len (a + 1) (k + 1) O = X at *
        obtain ⟨b2, q, O2⟩ := X
        dsimp only at *
        cases b2
        · have e2 : ∀ j, (icM T len j false q (if false = true then k + 1 + 1 else k + 1) O2).1 = false := by
            intro j
            cases j with
            | zero => rfl
            | succ j => rw [icM, if_neg (fun w => Bool.noConfusion w.1)]
          rw [e2] at hb
          exact Bool.noConfusion hb
        · have rr := rr rfl
          have ro := ro rfl
          have r4 := ra.2.2 rfl
          rw [if_pos rfl] at hb ⊢
          have low := icM_low T len j true q (k + 1 + 1) O2
          have em : (icM T len j true q (k + 1 + 1) O2).2.2.1 - k = (icM T len j true q (k + 1 + 1) O2).2.2.1 - (k + 1) + 1 := by omega
          have l0 : (icM T len j true q (k + 1 + 1) O2).2.2.2.getD (3 * k) 0 = c := (low.2 _ (by omega)).trans ((rl _ (by omega)).trans ec)
          have l1 : (icM T len j true q (k + 1 + 1) O2).2.2.2.getD (3 * k + 1) 0 = r := (low.2 _ (by omega)).trans ((rl _ (by omega)).trans er)
          have l2 : (icM T len j true q (k + 1 + 1) O2).2.2.2.getD (3 * k + 2) 0 = b := (low.2 _ (by omega)).trans ((rl _ (by omega)).trans eb)
          rw [dor_sep ha (fun _ => e), em, obM, l0, l1, l2]
          rcases do_rel ok h hf with ⟨x1, x2⟩ | ⟨N', x1, x2, x3⟩
          · rw [x1, x2]
            exact ⟨rfl, rfl, okG_le ok (by omega)⟩
          · rw [x1, x2, if_pos rfl]
            dsimp only
            obtain ⟨f2, n2, y1, y2, y3⟩ := ro (k + 1) c f n N'
            rw [y1]
            have ih := ob_rel hl j q (k + 1) (g + 100) O2 _ f2 n2 _ _ N' rr.1 (by omega) rlen (by omega) hb x3 y2 y3 rfl rfl rfl
            exact ⟨ih.1, ih.2.1, okG_le ih.2.2 (by omega)⟩
      · rw [if_neg e] at hb
        exact Bool.noConfusion hb
    · rw [if_neg (fun q => z q.2)] at hb ⊢
      exact ob_last (by omega) ok h hf ec er eb
theorem obey_rel {T : List Nat} {len g : Nat} {O N : List Nat} (hl : len ≤ 60) (hO : O.length = 120) (ok : okG g N) (hb : (icF T len O).1 = true) :
    (dOr T len (len + 1) 0 0 59 0 0 N).1 = (obM (icF T len O).2.2.2 (icF T len O).2.2.1 0 (mOf N)).1 ∧ mOf (dOr T len (len + 1) 0 0 59 0 0 N).2 = (obM (icF T len O).2.2.2 (icF T len O).2.2.1 0 (mOf N)).2 ∧ okG (g + 6100) (dOr T len (len + 1) 0 0 59 0 0 N).2 := by
  unfold icF at hb ⊢
  have ra := rdM_at T len 0 0 O
  have rlen := rdM_len T len 0 0 O hO
  have rr := (rd_rel (T := T) (len := len) (p := 0) (m := 0) (O := O) (Nat.zero_le _)).1
  have ro := fun q => ord_rel (T := T) (len := len) (p := 0) (k := 0) (O := O) (Nat.zero_le _) hO (by omega) q
  generalize rdM T len 0 0 O = X at *
  obtain ⟨b2, q, O2⟩ := X
  dsimp only at *
  cases b2
  · rw [icM, if_neg (fun w => Bool.noConfusion w.1)] at hb
    exact Bool.noConfusion hb
  · have rr := rr rfl
    rw [if_pos rfl] at hb ⊢
    obtain ⟨f2, n2, y1, y2, y3⟩ := ro rfl 0 59 0 0 N
    have y1 : dOr T len (len + 1) 0 0 59 0 0 N = dOr T len (len + 1 - q) q 0 (O2.getD (3 * 0) 0) f2 n2 N := y1
    rw [y1]
    have r4 := ra.2.2 rfl
    have ih := ob_rel hl 61 q 0 g O2 _ f2 n2 _ _ N rr.1 (by omega) rlen (by omega) hb ok y2 y3 rfl rfl rfl
    exact ⟨ih.1, ih.2.1, okG_le ih.2.2 (by omega)⟩
theorem obey_code {T : List Nat} {len : Nat} (O : List Nat) (hl : len ≤ 60) : cd1 (obeyE T len) = if (icF T len O).1 = true then 0 else 1 := by
  have h := (text_rel (T := T) O hl).2
  unfold obeyE
  by_cases z : rdN T len 0 (some 0) = some 1
  · rw [if_pos z, if_pos (h.mpr z)]
    rfl
  · rw [if_neg z, if_neg (fun q => z (h.mp q))]
    rfl
