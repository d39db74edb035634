/-! the shapes, once more -/
def shL : List Nat := [0, 1, 2, 3, 4, 5, 6, 7, 8, 9, 10, 11, 12, 13, 14, 15, 16, 17, 18, 19, 20, 21, 22, 23, 24, 25, 26, 27, 28, 29, 30, 31, 35, 39, 43, 47, 51, 55, 59, 63, 70, 71, 78, 79, 86, 87, 94, 95, 103, 111, 119, 127, 140, 141, 142, 143, 156, 157, 158, 159, 175, 191, 206, 207, 222, 223, 239, 255, 280, 281, 282, 283, 284, 285, 286, 287, 315, 319, 350, 351, 383, 412, 413, 414, 415, 447, 478, 479, 511, 615, 623, 631, 639, 751, 767, 895, 1023, 1230, 1231, 1246, 1247, 1263, 1279, 1502, 1503, 1535, 1775, 1791, 2047, 2460, 2461, 2462, 2463, 2495, 2526, 2527, 2559, 3071, 3550, 3551, 3583, 4095, 5871, 5887, 6143, 8191, 11742, 11743, 11775, 12287, 16383, 32767]
theorem shapes_L : shapesN = shL := by decide +kernel
theorem gS_mem {i : Nat} (h : i < 132) : gS i ∈ shL := by
  unfold gS
  rw [shapes_L]
  have h2 : i < shL.length := h
  rw [List.getD_eq_getElem?_getD, List.getElem?_eq_getElem h2]
  exact List.getElem_mem h2
theorem sh_all {f : Nat → Bool} (h : shL.all f = true) {i : Nat} (hi : i < 132) : f (gS i) = true := List.all_eq_true.mp h _ (gS_mem hi)
def oq (a b : Option Nat) : Bool := match a, b with
  | none, none => true
  | some x, some y => Nat.beq x y
  | _, _ => false
theorem oq_eq {a b : Option Nat} (h : oq a b = true) : a = b := by
  cases a <;> cases b
  · rfl
  · exact Bool.noConfusion h
  · exact Bool.noConfusion h
  · rw [Nat.eq_of_beq_eq_true h]
theorem slot_gS {i : Nat} (hi : i < 132) : slotN (gS i) = some i := by
  have key : (List.range 132).all (fun i => oq (slotN (shL.getD i 0)) (some i)) = true := by decide +kernel
  have h := oq_eq (List.all_eq_true.mp key i (List.mem_range.mpr hi))
  rw [← shapes_L] at h
  exact h
theorem gS_of {m i : Nat} (h : slotN m = some i) : i < 132 ∧ gS i = m := bsN_lt m 132 0 132 i (Nat.le_refl _) h
theorem gS_inj {i j : Nat} (hi : i < 132) (hj : j < 132) (h : gS i = gS j) : i = j := by
  have a := slot_gS hi
  rw [h, slot_gS hj] at a
  exact (Option.some.inj a).symm
/-- whether a theft is possible, whatever the settings allow at most -/
def pmB (bar : Bool) (m t r b : Nat) : Bool := !(Nat.blt (pop (bitsN m r)) b) && !(bar && !(Nat.beq (mfN (mrN m t r b)) (mrN m t r b)))
def ckB (bar : Bool) (m t r b : Nat) : Bool := oq (sbO bar t m r b) (if pmB bar m t r b = true then (slotN (mfN (mrN m t r b))).map fun i => 2 * i + (1 - t) else none) &&
  (!pmB bar m t r b || (match slotN (mfN (mrN m t r b)), slotN m with
    | some a, some c => Nat.blt a c && Nat.blt (pop (mfN (mrN m t r b))) (pop m)
    | _, _ => false))
theorem ckB_0 : shL.all (fun m => (List.range 5).all fun r => [1, 2, 3].all fun b => ckB false m 0 r b) = true := by decide +kernel
theorem ckB_1 : shL.all (fun m => (List.range 5).all fun r => [1, 2, 3].all fun b => ckB false m 1 r b) = true := by decide +kernel
theorem ckB_2 : shL.all (fun m => (List.range 5).all fun r => [1, 2, 3].all fun b => ckB true m 0 r b) = true := by decide +kernel
theorem ckB_3 : shL.all (fun m => (List.range 5).all fun r => [1, 2, 3].all fun b => ckB true m 1 r b) = true := by decide +kernel
