/-! ===== the law's blocks agree with the tables ===== -/
def okR (y : MethodName) (cc : ByteArray) (bl : List xB) (sk : Nat → Bool) (lo n : Nat) : Bool := (List.range n).all fun i => sk (lo + i) || (match bl[lo + i]? with
  | some B => okEs xT xKT y cc bl B.2.2 B.1 B.2.1
  | none => true)
theorem okR_e {y : MethodName} {cc : ByteArray} {bl : List xB} {sk : Nat → Bool} {lo n : Nat} (h : okR y cc bl sk lo n = true) {b : Nat} {B : xB} (h1 : lo ≤ b) (h2 : b < lo + n) (hb : bl[b]? = some B) (hs : sk b = false) : okEs xT xKT y cc bl B.2.2 B.1 B.2.1 = true := by
  have q := List.all_eq_true.mp h (b - lo) (List.mem_range.mpr (by omega))
  rw [Nat.add_sub_cancel' h1, hs, hb] at q
  exact q
theorem law_ok0 : okR ⟨RL, "law", ""⟩ code b_law ps_law 0 6 = true := by decide +kernel
theorem law_ok6 : okR ⟨RL, "law", ""⟩ code b_law ps_law 6 6 = true := by decide +kernel
theorem law_ok12 : okR ⟨RL, "law", ""⟩ code b_law ps_law 12 6 = true := by decide +kernel
theorem law_ok18 : okR ⟨RL, "law", ""⟩ code b_law ps_law 18 6 = true := by decide +kernel
theorem law_ok24 : okR ⟨RL, "law", ""⟩ code b_law ps_law 24 6 = true := by decide +kernel
theorem law_ok30 : okR ⟨RL, "law", ""⟩ code b_law ps_law 30 6 = true := by decide +kernel
theorem law_ok36 : okR ⟨RL, "law", ""⟩ code b_law ps_law 36 6 = true := by decide +kernel
theorem law_ok42 : okR ⟨RL, "law", ""⟩ code b_law ps_law 42 6 = true := by decide +kernel
theorem law_ok48 : okR ⟨RL, "law", ""⟩ code b_law ps_law 48 6 = true := by decide +kernel
theorem law_ok54 : okR ⟨RL, "law", ""⟩ code b_law ps_law 54 6 = true := by decide +kernel
theorem law_ok60 : okR ⟨RL, "law", ""⟩ code b_law ps_law 60 6 = true := by decide +kernel
theorem law_ok66 : okR ⟨RL, "law", ""⟩ code b_law ps_law 66 6 = true := by decide +kernel
theorem law_ok72 : okR ⟨RL, "law", ""⟩ code b_law ps_law 72 6 = true := by decide +kernel
theorem law_ok78 : okR ⟨RL, "law", ""⟩ code b_law ps_law 78 6 = true := by decide +kernel
theorem law_ok84 : okR ⟨RL, "law", ""⟩ code b_law ps_law 84 6 = true := by decide +kernel
theorem law_ok90 : okR ⟨RL, "law", ""⟩ code b_law ps_law 90 6 = true := by decide +kernel
theorem law_ok96 : okR ⟨RL, "law", ""⟩ code b_law ps_law 96 6 = true := by decide +kernel
theorem law_ok {b : Nat} {B : xB} (hb : b_law[b]? = some B) (hs : ps_law b = false) : okEs xT xKT ⟨RL, "law", ""⟩ code b_law B.2.2 B.1 B.2.1 = true := by
  have hl : b < 102 := (List.getElem?_eq_some_iff.mp hb).1
  rcases Nat.lt_or_ge b 6 with h | h6
  · exact okR_e law_ok0 (by omega) (by omega) hb hs
  rcases Nat.lt_or_ge b 12 with h | h12
  · exact okR_e law_ok6 (by omega) (by omega) hb hs
  rcases Nat.lt_or_ge b 18 with h | h18
  · exact okR_e law_ok12 (by omega) (by omega) hb hs
  rcases Nat.lt_or_ge b 24 with h | h24
  · exact okR_e law_ok18 (by omega) (by omega) hb hs
  rcases Nat.lt_or_ge b 30 with h | h30
  · exact okR_e law_ok24 (by omega) (by omega) hb hs
  rcases Nat.lt_or_ge b 36 with h | h36
  · exact okR_e law_ok30 (by omega) (by omega) hb hs
  rcases Nat.lt_or_ge b 42 with h | h42
  · exact okR_e law_ok36 (by omega) (by omega) hb hs
  rcases Nat.lt_or_ge b 48 with h | h48
  · exact okR_e law_ok42 (by omega) (by omega) hb hs
  rcases Nat.lt_or_ge b 54 with h | h54
  · exact okR_e law_ok48 (by omega) (by omega) hb hs
  rcases Nat.lt_or_ge b 60 with h | h60
  · exact okR_e law_ok54 (by omega) (by omega) hb hs
  rcases Nat.lt_or_ge b 66 with h | h66
  · exact okR_e law_ok60 (by omega) (by omega) hb hs
  rcases Nat.lt_or_ge b 72 with h | h72
  · exact okR_e law_ok66 (by omega) (by omega) hb hs
  rcases Nat.lt_or_ge b 78 with h | h78
  · exact okR_e law_ok72 (by omega) (by omega) hb hs
  rcases Nat.lt_or_ge b 84 with h | h84
  · exact okR_e law_ok78 (by omega) (by omega) hb hs
  rcases Nat.lt_or_ge b 90 with h | h90
  · exact okR_e law_ok84 (by omega) (by omega) hb hs
  rcases Nat.lt_or_ge b 96 with h | h96
  · exact okR_e law_ok90 (by omega) (by omega) hb hs
  rcases Nat.lt_or_ge b 102 with h | h102
  · exact okR_e law_ok96 (by omega) (by omega) hb hs
  · omega
