/-! ===== Play: played out ===== -/
theorem set_a (h0 l : xH) (c : xC) (i : Nat) : (h0 ++ l).set (h0.length + i) c = h0 ++ l.set i c := by
  rw [List.set_append_right _ _ (Nat.le_add_right _ _), Nat.add_sub_cancel_left]
theorem get_a (h0 l : xH) (i : Nat) : (h0 ++ l)[h0.length + i]? = l[i]? := by
  rw [List.getElem?_append_right (Nat.le_add_right _ _), Nat.add_sub_cancel_left]
/-- the heap with a Play at its end -/
def hP (h0 : xH) (a most : Nat) (bar wo : Bool) (T : xTb) : xH := h0 ++ [(5, [], [.ref a, .int (nI most), .int (bI bar), .int (bI wo), .ref (h0.length + 1), .ref (h0.length + 2), .ref (h0.length + 3)]), (2, T.1.map bI, []), (0, T.2.1.map nI, []), (0, T.2.2.map nI, [])]
def tb3 (T : xTb) : Prop := T.1.length = 264 ∧ T.2.1.length = 264 ∧ T.2.2.length = 264
theorem hP_A {h0 : xH} {a most : Nat} {bar wo : Bool} {T : xTb} (ha : h0[a]? = some (0, shapesN.map nI, [])) (hl : h0.length < 900) (n : tb3 T) :
    PlA (hP h0 a most bar wo T) h0.length a (h0.length + 1) (h0.length + 2) (h0.length + 3) most bar wo T := by
  have hal : a < h0.length := (List.getElem?_eq_some_iff.mp ha).1
  refine ⟨?_, ?_, ?_, ?_, ?_, by omega, by omega, by omega, n.1, n.2.1, n.2.2⟩
  · exact get_a h0 _ 0
  · unfold hP
    rw [List.getElem?_append_left hal]
    exact ha
  · exact get_a h0 _ 1
  · exact get_a h0 _ 2
  · exact get_a h0 _ 3
/-- what is known while a shape is played out: over, wins, high, low -/
abbrev xPo : Type := Bool × Bool × Nat × Nat
def poS (T : xTb) (s : Nat) (x : xPo) : xPo := (false, x.2.1 || !T.1.getD s false, max x.2.2.1 (T.2.1.getD s 0 + 1), if x.1 then T.2.2.getD s 0 + 1 else min x.2.2.2 (T.2.2.getD s 0 + 1))
def poO (T : xTb) (o : Option Nat) (x : xPo) : xPo := match o with
  | some s => poS T s x
  | none => x
/-- the numbers of bottles b, b+1, .. -/
def poB (T : xTb) (bar : Bool) (t m r : Nat) : Nat → Nat → xPo → xPo
  | 0, _, x => x
  | j + 1, b, x => poB T bar t m r j (b + 1) (poO T (sbO bar t m r b) x)
def poR (T : xTb) (bar : Bool) (t m most : Nat) : Nat → Nat → xPo → xPo
  | 0, _, x => x
  | j + 1, r, x => poR T bar t m most j (r + 1) (poB T bar t m r most 1 x)
def poN (T : xTb) (bar : Bool) (t m most : Nat) : xPo := poR T bar t m most 5 0 (true, false, 0, 0)
def poT (T : xTb) (bar wo : Bool) (most t i : Nat) : xTb :=
  let x := poN T bar t (gS i) most
  (T.1.set (2 * i + t) (if x.1 then wo else x.2.1), T.2.1.set (2 * i + t) x.2.2.1, T.2.2.set (2 * i + t) x.2.2.2)
def tbB (T : xTb) (B : Nat) : Prop := (∀ i, T.2.1.getD i 0 ≤ B) ∧ ∀ i, T.2.2.getD i 0 ≤ B
theorem poS_le {T : xTb} {B s : Nat} {x : xPo} (hT : tbB T B) (hx : x.2.2.1 ≤ B + 1 ∧ x.2.2.2 ≤ B + 1) : (poS T s x).2.2.1 ≤ B + 1 ∧ (poS T s x).2.2.2 ≤ B + 1 := by
  have h1 := hT.1 s
  have h2 := hT.2 s
  unfold poS
  refine ⟨Nat.max_le.mpr ⟨hx.1, by omega⟩, ?_⟩
  show (if x.1 = true then _ else _) ≤ B + 1
  split
  · omega
  · exact Nat.le_trans (Nat.min_le_left _ _) hx.2
theorem poO_le {T : xTb} {B : Nat} {o : Option Nat} {x : xPo} (hT : tbB T B) (hx : x.2.2.1 ≤ B + 1 ∧ x.2.2.2 ≤ B + 1) : (poO T o x).2.2.1 ≤ B + 1 ∧ (poO T o x).2.2.2 ≤ B + 1 := by
  cases o with
  | none => exact hx
  | some s => exact poS_le hT hx
theorem poB_le {T : xTb} {B t m r : Nat} {bar : Bool} (hT : tbB T B) : ∀ (j b : Nat) (x : xPo), (x.2.2.1 ≤ B + 1 ∧ x.2.2.2 ≤ B + 1) → (poB T bar t m r j b x).2.2.1 ≤ B + 1 ∧ (poB T bar t m r j b x).2.2.2 ≤ B + 1
  | 0, _, _, hx => hx
  | j + 1, _, _, hx => poB_le hT j _ _ (poO_le hT hx)
theorem poR_le {T : xTb} {B t m most : Nat} {bar : Bool} (hT : tbB T B) : ∀ (j r : Nat) (x : xPo), (x.2.2.1 ≤ B + 1 ∧ x.2.2.2 ≤ B + 1) → (poR T bar t m most j r x).2.2.1 ≤ B + 1 ∧ (poR T bar t m most j r x).2.2.2 ≤ B + 1
  | 0, _, _, hx => hx
  | j + 1, _, _, hx => poR_le hT j _ _ (poB_le hT _ _ _ hx)
theorem poN_le {T : xTb} {B t m most : Nat} {bar : Bool} (hT : tbB T B) : (poN T bar t m most).2.2.1 ≤ B + 1 ∧ (poN T bar t m most).2.2.2 ≤ B + 1 := poR_le hT _ _ _ ⟨Nat.zero_le _, Nat.zero_le _⟩
theorem getD_set_le {l : List Nat} {i j v B : Nat} (h : ∀ k, l.getD k 0 ≤ B) (hv : v ≤ B + 1) : (l.set i v).getD j 0 ≤ B + 1 := by
  have hj := h j
  rw [List.getD_eq_getElem?_getD] at hj ⊢
  rw [List.getElem?_set]
  by_cases e : i = j
  · rw [if_pos e]
    by_cases e2 : i < l.length
    · rw [if_pos e2]; exact hv
    · rw [if_neg e2]; exact Nat.zero_le _
  · rw [if_neg e]; omega
theorem poT_le {T : xTb} {B t i most : Nat} {bar wo : Bool} (hT : tbB T B) : tbB (poT T bar wo most t i) (B + 1) :=
  ⟨fun k => getD_set_le hT.1 (poN_le hT).1, fun k => getD_set_le hT.2 (poN_le hT).2⟩
theorem poT_n {T : xTb} {t i most : Nat} {bar wo : Bool} (n : tb3 T) : tb3 (poT T bar wo most t i) :=
  ⟨List.length_set.trans n.1, List.length_set.trans n.2.1, List.length_set.trans n.2.2⟩
