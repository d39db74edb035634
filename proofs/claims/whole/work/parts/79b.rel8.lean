/-! class and model: saved states -/
def slV (V : List Nat) (j : Nat) : List Nat := (List.range 18).map fun k => V.getD (18 * j + k) 0
def slM (B : List Nat) (j : Nat) : List Nat := (List.range 19).map fun k => B.getD (19 * j + k) 0
theorem rg_get (n : Nat) (f : Nat → Nat) {i : Nat} (h : i < n) : ((List.range n).map f).getD i 0 = f i := by
  rw [List.getD_eq_getElem?_getD, List.getElem?_map, List.getElem?_range h]
  rfl
theorem slV_len (V : List Nat) (j : Nat) : (slV V j).length = 18 := by simp [slV]
theorem slM_len (V : List Nat) (j : Nat) : (slM V j).length = 19 := by simp [slM]
theorem cpyN_get {f g : List Nat} {sp dp n : Nat} (h1 : sp + n ≤ f.length) (h2 : dp + n ≤ g.length) (i : Nat) : (cpyN f g sp dp n).getD i 0 = if i < dp then g.getD i 0 else if i < dp + n then f.getD (sp + (i - dp)) 0 else g.getD i 0 := by
  unfold cpyN
  rw [List.getD_eq_getElem?_getD, List.getElem?_append, List.length_take, Nat.min_eq_left (by omega)]
  by_cases a : i < dp
  · rw [if_pos a, if_pos a, List.getElem?_take, if_pos a, List.getD_eq_getElem?_getD]
  · rw [if_neg a, if_neg a, List.getElem?_append, List.length_take, List.length_drop, Nat.min_eq_left (by omega)]
    by_cases b : i < dp + n
    · rw [if_pos (by omega), if_pos b, List.getElem?_take, if_pos (by omega), List.getElem?_drop, List.getD_eq_getElem?_getD]
    · rw [if_neg (by omega), if_neg b, List.getElem?_drop, List.getD_eq_getElem?_getD]
      congr 2
      omega
theorem cpB_get (N : List Nat) (st : Nat) : ∀ (j k : Nat) (B : List Nat) (i : Nat), 19 * st + k + j ≤ B.length → (cpB N st j k B).getD i 0 = if 19 * st + k ≤ i ∧ i < 19 * st + k + j then N.getD (i - 19 * st) 0 else B.getD i 0
  | 0, k, B, i, h => by rw [cpB, if_neg (by omega)]
  | j + 1, k, B, i, h => by
    rw [cpB, cpB_get N st j (k + 1) _ i (by rw [List.length_set]; omega)]
    by_cases a : 19 * st + (k + 1) ≤ i ∧ i < 19 * st + (k + 1) + j
    · rw [if_pos a, if_pos (by omega)]
    · rw [if_neg a]
      by_cases b : i = 19 * st + k
      · subst b
        rw [gs_eq (by omega), if_pos (by omega)]
        congr 1
        omega
      · rw [gs_ne (by omega), if_neg (by omega)]
theorem shB_get : ∀ (j k : Nat) (B : List Nat) (i : Nat), k + j ≤ B.length → (shB j k B).getD i 0 = if k ≤ i ∧ i < k + j then B.getD (19 + i) 0 else B.getD i 0
  | 0, k, B, i, h => by rw [shB, if_neg (by omega)]
  | j + 1, k, B, i, h => by
    rw [shB, shB_get j (k + 1) _ i (by rw [List.length_set]; omega)]
    by_cases a : k + 1 ≤ i ∧ i < k + 1 + j
    · rw [if_pos a, if_pos (by omega), gs_ne (by omega)]
    · rw [if_neg a]
      by_cases b : i = k
      · subst b
        rw [gs_eq (by omega), if_pos (by omega)]
      · rw [gs_ne (by omega), if_neg (by omega)]
theorem cpK_get (F : List Nat) : ∀ (j k : Nat) (L : List Nat) (i : Nat), k + j ≤ L.length → (cpK F j k L).getD i 0 = if k ≤ i ∧ i < k + j then F.getD i 0 else L.getD i 0
  | 0, k, B, i, h => by rw [cpK, if_neg (by omega)]
  | j + 1, k, B, i, h => by
    rw [cpK, cpK_get F j (k + 1) _ i (by rw [List.length_set]; omega)]
    by_cases a : k + 1 ≤ i ∧ i < k + 1 + j
    · rw [if_pos a, if_pos (by omega)]
    · rw [if_neg a]
      by_cases b : i = k
      · subst b
        rw [gs_eq (by omega), if_pos (by omega)]
      · rw [gs_ne (by omega), if_neg (by omega)]
theorem cpU_get (F : List Nat) (o : Nat) : ∀ (j k : Nat) (L : List Nat) (i : Nat), k + j ≤ L.length → (cpU F o j k L).getD i 0 = if k ≤ i ∧ i < k + j then F.getD (19 * o + i) 0 else L.getD i 0
  | 0, k, B, i, h => by rw [cpU, if_neg (by omega)]
  | j + 1, k, B, i, h => by
    rw [cpU, cpU_get F o j (k + 1) _ i (by rw [List.length_set]; omega)]
    by_cases a : k + 1 ≤ i ∧ i < k + 1 + j
    · rw [if_pos a, if_pos (by omega)]
    · rw [if_neg a]
      by_cases b : i = k
      · subst b
        rw [gs_eq (by omega), if_pos (by omega)]
      · rw [gs_ne (by omega), if_neg (by omega)]
theorem cpK_len (F : List Nat) : ∀ (j k : Nat) (L : List Nat), (cpK F j k L).length = L.length
  | 0, _, _ => rfl
  | j + 1, k, L => (cpK_len F j (k + 1) _).trans List.length_set
theorem cpU_len (F : List Nat) (o : Nat) : ∀ (j k : Nat) (L : List Nat), (cpU F o j k L).length = L.length
  | 0, _, _ => rfl
  | j + 1, k, L => (cpU_len F o j (k + 1) _).trans List.length_set
theorem cpK_all {F L : List Nat} (hF : F.length = 19) (hL : L.length = 19) : cpK F 19 0 L = F := by
  refine ext_D ((cpK_len _ _ _ _).trans (hL.trans hF.symm)) (fun i hi => ?_)
  rw [cpK_len] at hi
  rw [cpK_get F 19 0 L i (by omega), if_pos (by omega)]
theorem cpU_all {B L : List Nat} (j : Nat) (hL : L.length = 19) : cpU B j 19 0 L = slM B j := by
  refine ext_D ((cpU_len _ _ _ _ _).trans (hL.trans (slM_len _ _).symm)) (fun i hi => ?_)
  rw [cpU_len] at hi
  rw [cpU_get B j 19 0 L i (by omega), if_pos (by omega)]
  have hi2 : i < 19 := by omega
  exact (rg_get 19 (fun k => B.getD (19 * j + k) 0) hi2).symm
theorem undo_all {V N : List Nat} {j : Nat} (hV : V.length = 108) (hN : N.length = 18) (hj : j < 6) : cpyN V N (j * 18) 0 18 = slV V j := by
  refine ext_D ((cpyN_len (by omega) (by omega)).trans (hN.trans (slV_len _ _).symm)) (fun i hi => ?_)
  rw [cpyN_len (by omega) (by omega)] at hi
  rw [cpyN_get (by omega) (by omega), if_neg (by omega), if_pos (by omega)]
  refine Eq.trans ?_ (rg_get 18 _ (by omega)).symm
  congr 1
  omega
theorem save_len {N V : List Nat} {sv : Nat} (hN : N.length = 18) (hV : V.length = 108) (hs : sv ≤ 6) : (saveV N V sv).length = 108 := by
  unfold saveV
  split
  · exact (cpyN_len (by omega) (by omega)).trans hV
  · exact (cpyN_len (by omega) (by rw [cpyN_len (by omega) (by omega)]; omega)).trans ((cpyN_len (by omega) (by omega)).trans hV)
theorem save_new {N V : List Nat} {sv : Nat} (hN : N.length = 18) (hV : V.length = 108) (hs : sv ≤ 6) : slV (saveV N V sv) (saveS sv - 1) = N := by
  refine ext_D ((slV_len _ _).trans hN.symm) (fun i hi => ?_)
  rw [slV_len] at hi
  refine (rg_get 18 _ hi).trans ?_
  unfold saveV saveS
  by_cases a : sv < 6
  · rw [if_pos a, if_pos a, cpyN_get (by omega) (by omega), if_neg (by omega), if_pos (by omega)]
    congr 1
    omega
  · rw [if_neg a, if_neg a, cpyN_get (by omega) (by rw [cpyN_len (by omega) (by omega)]; omega), if_neg (by omega), if_pos (by omega)]
    congr 1
    omega
theorem save_old {N V : List Nat} {sv j : Nat} (hN : N.length = 18) (hV : V.length = 108) (hs : sv ≤ 6) (hj : j < saveS sv - 1) : slV (saveV N V sv) j = slV V (if sv < 6 then j else j + 1) := by
  refine ext_D ((slV_len _ _).trans (slV_len _ _).symm) (fun i hi => ?_)
  rw [slV_len] at hi
  refine (rg_get 18 _ hi).trans (Eq.trans ?_ (rg_get 18 _ hi).symm)
  unfold saveS at hj
  unfold saveV
  by_cases a : sv < 6
  · rw [if_pos a] at hj
    rw [if_pos a, if_pos a, cpyN_get (by omega) (by omega), if_pos (by omega)]
  · rw [if_neg a] at hj
    rw [if_neg a, if_neg a, cpyN_get (by omega) (by rw [cpyN_len (by omega) (by omega)]; omega), if_pos (by omega), cpyN_get (by omega) (by omega), if_neg (by omega), if_pos (by omega)]
    congr 1
    omega
theorem rec_new {N B : List Nat} {st : Nat} (hN : N.length = 19) (hB : B.length = 114) (hs : st ≤ 6) : slM (recB N B st) (saveS st - 1) = N := by
  refine ext_D ((slM_len _ _).trans hN.symm) (fun i hi => ?_)
  rw [slM_len] at hi
  refine (rg_get 19 _ hi).trans ?_
  unfold recB saveS
  by_cases a : st < 6
  · rw [if_pos a, if_pos a, cpB_get _ _ _ _ _ _ (by omega), if_pos (by omega)]
    congr 1
    omega
  · rw [if_neg a, if_neg a, cpB_get _ _ _ _ _ _ (by rw [shB_len]; omega), if_pos (by omega)]
    congr 1
    omega
theorem rec_old {N B : List Nat} {st j : Nat} (hN : N.length = 19) (hB : B.length = 114) (hs : st ≤ 6) (hj : j < saveS st - 1) : slM (recB N B st) j = slM B (if st < 6 then j else j + 1) := by
  refine ext_D ((slM_len _ _).trans (slM_len _ _).symm) (fun i hi => ?_)
  rw [slM_len] at hi
  refine (rg_get 19 _ hi).trans (Eq.trans ?_ (rg_get 19 _ hi).symm)
  unfold saveS at hj
  unfold recB
  by_cases a : st < 6
  · rw [if_pos a] at hj
    rw [if_pos a, if_pos a, cpB_get _ _ _ _ _ _ (by omega), if_neg (by omega)]
  · rw [if_neg a] at hj
    rw [if_neg a, if_neg a, cpB_get _ _ _ _ _ _ (by rw [shB_len]; omega), if_neg (by omega), shB_get _ _ _ _ (by omega), if_pos (by omega)]
    congr 1
    omega
/-- what is known of a row of numbers after so many steps -/
def okN2 (c : Nat) (N : List Nat) : Prop := stN N ∧ shp (N.getD 0 0) ∧ brkS N 5 0 0 + N.getD 16 0 + N.getD 17 0 ≤ c
def relV (c : Nat) (V B : List Nat) (sv : Nat) : Prop := V.length = 108 ∧ B.length = 114 ∧ sv ≤ 6 ∧ ∀ j, j < sv → okN2 c (slV V j) ∧ slM B j = mOf (slV V j)
theorem okN2_le {c c' : Nat} {N : List Nat} (h : okN2 c N) (hc : c ≤ c') : okN2 c' N := ⟨h.1, h.2.1, Nat.le_trans h.2.2 hc⟩
theorem relV_le {c c' : Nat} {V B : List Nat} {sv : Nat} (h : relV c V B sv) (hc : c ≤ c') : relV c' V B sv := ⟨h.1, h.2.1, h.2.2.1, fun j hj => ⟨okN2_le (h.2.2.2 j hj).1 hc, (h.2.2.2 j hj).2⟩⟩
theorem relV_save {c : Nat} {N V B : List Nat} {sv : Nat} (h : relV c V B sv) (ok : okN2 c N) : relV c (saveV N V sv) (recB (mOf N) B sv) (saveS sv) := by
  obtain ⟨hV, hB, hs, hr⟩ := h
  have hN := ok.1.1
  have hM : (mOf N).length = 19 := rfl
  refine ⟨save_len hN hV hs, (recB_len _ _ _).trans hB, by unfold saveS; split <;> omega, fun j hj => ?_⟩
  by_cases e : j = saveS sv - 1
  · rw [e, save_new hN hV hs, rec_new hM hB hs]
    exact ⟨ok, rfl⟩
  · rw [save_old hN hV hs (by omega), rec_old hM hB hs (by omega)]
    unfold saveS at hj e
    by_cases a : sv < 6
    · rw [if_pos a] at hj e
      rw [if_pos a]
      exact hr j (by omega)
    · rw [if_neg a] at hj e
      rw [if_neg a]
      exact hr (j + 1) (by omega)
