/-! ===== what was saved ===== -/
def slV (V : List Nat) (j : Nat) : List Nat := (List.range 18).map fun k => V.getD (18 * j + k) 0
theorem rg_get (n : Nat) (f : Nat → Nat) {i : Nat} (h : i < n) : ((List.range n).map f).getD i 0 = f i := by
  rw [List.getD_eq_getElem?_getD, List.getElem?_map, List.getElem?_range h]
  rfl
theorem slV_len (V : List Nat) (j : Nat) : (slV V j).length = 18 := by simp [slV]
theorem cpyN_get {f g : List Nat} {sp dp n : Nat} (h1 : sp + n ≤ f.length) (h2 : dp + n ≤ g.length) (i : Nat) : (cpyN f g sp dp n).getD i 0 = if i < dp then g.getD i 0 else if i < dp + n then f.getD (sp + (i - dp)) 0 else g.getD i 0 := by
  unfold cpyN
  rw [List.getD_eq_getElem?_getD, List.getElem?_append, List.length_take, Nat.min_eq_left (by omega)]
  by_cases a : i < dp
  · rw [if_pos a, if_pos a, List.getElem?_take, if_pos a, List.getD_eq_getElem?_getD]
  · rw [if_neg a, if_neg a, List.getElem?_append, List.length_take, List.length_drop, Nat.min_eq_left (by omega)]
    by_cases b : i < dp + n
    · rw [if_pos (by omega), if_pos b, List.getElem?_take, if_pos (by omega), List.getElem?_drop, List.getD_eq_getElem?_getD]
    · rw [if_neg (by omega), if_neg b, List.getElem?_drop, List.getD_eq_getElem?_getD]
      congr 2
      omega
theorem undo_all {V N : List Nat} {j : Nat} (hV : V.length = 108) (hN : N.length = 18) (hj : j < 6) : cpyN V N (j * 18) 0 18 = slV V j := by
  refine ext_D ((cpyN_len (by omega) (by omega)).trans (hN.trans (slV_len _ _).symm)) (fun i hi => ?_)
  rw [cpyN_len (by omega) (by omega)] at hi
  rw [cpyN_get (by omega) (by omega), if_neg (by omega), if_pos (by omega)]
  refine Eq.trans ?_ (rg_get 18 _ (by omega)).symm
  congr 1
  omega
theorem save_len {N V : List Nat} {sv : Nat} (hN : N.length = 18) (hV : V.length = 108) (hs : sv ≤ 6) : (saveV N V sv).length = 108 := by
  unfold saveV
  split
  · exact (cpyN_len (by omega) (by omega)).trans hV
  · exact (cpyN_len (by omega) (by rw [cpyN_len (by omega) (by omega)]; omega)).trans ((cpyN_len (by omega) (by omega)).trans hV)
theorem save_new {N V : List Nat} {sv : Nat} (hN : N.length = 18) (hV : V.length = 108) (hs : sv ≤ 6) : slV (saveV N V sv) (saveS sv - 1) = N := by
  refine ext_D ((slV_len _ _).trans hN.symm) (fun i hi => ?_)
  rw [slV_len] at hi
  refine (rg_get 18 _ hi).trans ?_
  unfold saveV saveS
  by_cases a : sv < 6
  · rw [if_pos a, if_pos a, cpyN_get (by omega) (by omega), if_neg (by omega), if_pos (by omega)]
    congr 1
    omega
  · rw [if_neg a, if_neg a, cpyN_get (by omega) (by rw [cpyN_len (by omega) (by omega)]; omega), if_neg (by omega), if_pos (by omega)]
    congr 1
    omega
