/-! the model: all resting pyramids are found -/
def chk : Nat → Nat → Nat → Option Nat
  | 0, _, f => some f
  | j + 1, k, f => bif Nat.beq (mfN k) k then (bif Nat.beq (shL.getD f 0) k && Nat.blt f 132 then chk j (k + 1) (f + 1) else none) else chk j (k + 1) f
theorem chk_add : ∀ (a b k f g : Nat), chk a k f = some g → chk (a + b) k f = chk b (k + a) g
  | 0, b, k, f, g, h => by
    rw [chk] at h
    rw [Nat.zero_add, Nat.add_zero, Option.some.inj h]
  | a + 1, b, k, f, g, h => by
    have e : a + 1 + b = (a + b) + 1 := by omega
    have e2 : k + (a + 1) = k + 1 + a := by omega
    rw [e, chk, e2]
    rw [chk] at h
    cases c1 : Nat.beq (mfN k) k
    · rw [c1] at h
      exact chk_add a b (k + 1) f g h
    · rw [c1] at h
      cases c2 : Nat.beq (shL.getD f 0) k && Nat.blt f 132
      · rw [c2] at h
        exact nomatch (show (none : Option Nat) = some g from h)
      · rw [c2] at h
        exact chk_add a b (k + 1) (f + 1) g h
theorem chk_0 : chk 4096 0 0 = some 122 := by decide +kernel
theorem chk_1 : chk 4096 4096 122 = some 126 := by decide +kernel
theorem chk_2 : chk 4096 8192 126 = some 130 := by decide +kernel
theorem chk_3 : chk 4096 12288 130 = some 131 := by decide +kernel
theorem chk_4 : chk 4096 16384 131 = some 131 := by decide +kernel
theorem chk_5 : chk 4096 20480 131 = some 131 := by decide +kernel
theorem chk_6 : chk 4096 24576 131 = some 131 := by decide +kernel
theorem chk_7 : chk 4096 28672 131 = some 132 := by decide +kernel
theorem chk_all : chk 32768 0 0 = some 132 := by
  refine (chk_add 4096 28672 0 _ _ chk_0).trans ?_
  refine (chk_add 4096 24576 4096 _ _ chk_1).trans ?_
  refine (chk_add 4096 20480 8192 _ _ chk_2).trans ?_
  refine (chk_add 4096 16384 12288 _ _ chk_3).trans ?_
  refine (chk_add 4096 12288 16384 _ _ chk_4).trans ?_
  refine (chk_add 4096 8192 20480 _ _ chk_5).trans ?_
  refine (chk_add 4096 4096 24576 _ _ chk_6).trans ?_
  exact chk_7
