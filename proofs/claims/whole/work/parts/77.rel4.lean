/-! class and model: the same codes -/
def cd3 (e : Nat) : Nat := if e = 0 then 0 else if e = 10 then 1 else if e = 11 then 2 else 3
def cdIS (e : Nat) : Nat := if e = 0 then 0 else if e = 10 then 1 else 2
def cdAS (e : Nat) : Nat := if e = 0 then 0 else if e = 11 then 1 else 2
def cd1 (e : Nat) : Nat := if e = 0 then 0 else 1
theorem lt_le {x : Int32} {k : Nat} (hk : k < 2 ^ 31 - 1) : x < nI (k + 1) ↔ x ≤ nI k := by
  rw [Int32.lt_iff_toInt_lt, Int32.le_iff_toInt_le, nI_toInt (n := k + 1) (by omega), nI_toInt (n := k) (by omega)]
  omega
theorem isRow_rel (x : Int32) : isRowB x = inB x (nI 0) (nI 4) := by
  unfold isRowB inB
  rw [decide_eq_decide.mpr (lt_le (x := x) (k := 4) (by decide))]
  rfl
theorem isSet_rel (x : Int32) : isSettingB x = inB x (nI 0) (nI 2) := rfl
theorem not_in {x lo hi : Int32} : (x < lo ∨ hi < x) ↔ ¬ inB x lo hi = true := by
  unfold inB
  rw [Bool.and_eq_true]
  constructor
  · rintro (q | q) ⟨a, b⟩
    · exact Int32.not_le.mpr q (of_decide_eq_true a)
    · exact Int32.not_le.mpr q (of_decide_eq_true b)
  · intro q
    by_cases a : lo ≤ x
    · by_cases b : x ≤ hi
      · exact (q ⟨decide_eq_true a, decide_eq_true b⟩).elim
      · exact Or.inr (Int32.not_le.mp b)
    · exact Or.inl (Int32.not_le.mp a)
theorem place_rel (x y : Int32) : isPlaceB x y = plB x y := by
  unfold isPlaceB plB
  rw [isRow_rel]
  by_cases h : inB x (nI 0) (nI 4) = true
  · obtain ⟨r, hr, rfl⟩ := inB_of (by decide) h
    rw [h, Bool.true_and, Bool.true_and, n_sub (by omega), n_sub (by omega)]
    have e : 5 - r = 4 - r + 1 := by omega
    unfold inB
    rw [e, decide_eq_decide.mpr (lt_le (x := y) (k := 4 - r) (by omega)), show (0 : Int32) = nI 0 from rfl]
  · have e : inB x (nI 0) (nI 4) = false := by
      cases q : inB x (nI 0) (nI 4)
      · rfl
      · exact (h q).elim
    rw [e, Bool.false_and, Bool.false_and]
theorem take_code {N : List Nat} (ok : stN N) (hm : shp (N.getD 0 0)) (x y : Int32) : cd3 (takeE N x y) = mtkE (mOf N) x y := by
  have e6 : (mOf N).getD 6 0 = N.getD 3 0 := rfl
  have e0 : (mOf N).getD 0 0 = N.getD 0 0 := rfl
  have e1 : (mOf N).getD 1 0 = N.getD 1 0 := rfl
  have h3 := ok.2.2.2.2.1
  unfold takeE mtkE
  rw [isRow_rel, e6, e0, e1]
  by_cases a : inB x (nI 0) (nI 4) = true
  · rw [if_neg (by rw [a]; decide), if_pos a]
    by_cases c : inB y (nI 1) (nI (N.getD 3 0)) = true
    · rw [if_neg (fun q => not_in.mp q c), if_pos c]
      obtain ⟨r, hr, rfl⟩ := inB_of (by decide) a
      obtain ⟨b, hb1, hb2, rfl⟩ := inB_of1 (by omega) c
      rw [n_cl (by omega), n_cl (by omega), rsn_rel ok hm (by omega) hb1 (by omega)]
      split <;> rfl
    · rw [if_pos (not_in.mpr c), if_neg c]
      rfl
  · rw [if_pos (by cases q : inB x (nI 0) (nI 4); rfl; exact (a q).elim), if_neg a]
    rfl
theorem turn_code (x : Int32) : cd1 (turnE x) = mtuE x := by
  unfold turnE mtuE
  rw [show (0 : Int32) = nI 0 from rfl]
  by_cases a : inB x (nI 0) (nI 1) = true
  · rw [if_neg (fun q => not_in.mp q a), if_pos a]
    rfl
  · rw [if_pos (not_in.mpr a), if_neg a]
    rfl
theorem fal_of {b : Bool} (h : ¬ b = true) : b = false := by
  cases b
  · rfl
  · exact (h rfl).elim
theorem knock_code (N : List Nat) (x y : Int32) : cdIS (knockE N x y) = mknE (mOf N) x y := by
  have e0 : (mOf N).getD 0 0 = N.getD 0 0 := rfl
  unfold knockE mknE
  rw [place_rel, e0]
  by_cases a : plB x y = true
  · rw [if_neg (by rw [a]; decide), if_pos a]
    split <;> rfl
  · rw [if_pos (fal_of a), if_neg a]
    rfl
theorem put_code (N : List Nat) (x y : Int32) : cdIS (putE N x y) = mpuE (mOf N) x y := by
  have e0 : (mOf N).getD 0 0 = N.getD 0 0 := rfl
  unfold putE mpuE
  rw [place_rel, e0]
  by_cases a : plB x y = true
  · rw [if_neg (by rw [a]; decide), if_pos a]
    split <;> rfl
  · rw [if_pos (fal_of a), if_neg a]
    rfl
theorem set_code (x v : Int32) : cd3 (setE x v) = mseE x v := by
  unfold setE mseE
  rw [isSet_rel]
  by_cases a : inB x (nI 0) (nI 2) = true
  · rw [if_neg (by rw [a]; decide), if_pos a]
    have e : inB v (setLo x) (setHi x) = (if x = 0 then inB v (nI 1) (nI 3) else inB v (nI 0) (nI 1)) := by
      unfold setLo setHi
      split <;> rfl
    by_cases c : inB v (setLo x) (setHi x) = true
    · rw [if_neg (fun q => not_in.mp q c), if_pos (by rw [← e]; exact c)]
      rfl
    · rw [if_pos (not_in.mpr c), if_neg (by rw [← e]; exact c)]
      rfl
  · rw [if_pos (fal_of a), if_neg a]
    rfl
theorem app_code (tl : Nat) (x : Int32) : cdAS (appE tl x) = mapE x tl := by
  unfold appE mapE
  by_cases a : inB x (nI 33) (nI 126) = true
  · rw [if_neg (fun q => not_in.mp q a), if_pos a]
    by_cases c : tl < 60
    · rw [if_neg (by omega), if_pos c]
      rfl
    · rw [if_pos (by omega), if_neg c]
      rfl
  · rw [if_pos (not_in.mpr a), if_neg a]
    rfl
theorem why_code (x y : Int32) : cd3 (whyE x y) = mwyE x y := by
  unfold whyE mwyE
  rw [isRow_rel]
  by_cases a : inB x (nI 0) (nI 4) = true
  · rw [if_neg (by rw [a]; decide), if_pos a]
    by_cases c : inB y (nI 1) (nI 5) = true
    · rw [if_neg (fun q => not_in.mp q c), if_pos c]
      rfl
    · rw [if_pos (not_in.mpr c), if_neg c]
      rfl
  · rw [if_pos (fal_of a), if_neg a]
    rfl
theorem setting_code (x : Int32) : cd1 (settingE x) = msgE x := by
  unfold settingE msgE
  rw [isSet_rel]
  by_cases a : inB x (nI 0) (nI 2) = true
  · rw [if_neg (by rw [a]; decide), if_pos a]
    rfl
  · rw [if_pos (fal_of a), if_neg a]
    rfl
theorem row_code (x w : Int32) : cd3 (rowE x w) = mroE x w := by
  unfold rowE mroE
  rw [isRow_rel]
  by_cases a : inB x (nI 0) (nI 4) = true
  · rw [if_neg (by rw [a]; decide), if_pos a]
    by_cases c : inB w (nI 0) (nI 5) = true
    · rw [if_pos c]
      obtain ⟨k, hk, rfl⟩ := inB_of (by decide) c
      have : k = 0 ∨ k = 1 ∨ k = 2 ∨ k = 3 ∨ k = 4 ∨ k = 5 := by omega
      rcases this with rfl | rfl | rfl | rfl | rfl | rfl <;> rfl
    · rw [if_neg c, if_neg (fun q => c (by rcases q with rfl | rfl | rfl | rfl | rfl | rfl <;> decide))]
      rfl
  · rw [if_pos (fal_of a), if_neg a]
    rfl
theorem cnt_code (w : Int32) : cd1 (cntE w) = mcoE w := by
  unfold cntE mcoE
  by_cases c : inB w (nI 0) (nI 9) = true
  · rw [if_pos c]
    obtain ⟨k, hk, rfl⟩ := inB_of (by decide) c
    have : k = 0 ∨ k = 1 ∨ k = 2 ∨ k = 3 ∨ k = 4 ∨ k = 5 ∨ k = 6 ∨ k = 7 ∨ k = 8 ∨ k = 9 := by omega
    rcases this with rfl | rfl | rfl | rfl | rfl | rfl | rfl | rfl | rfl | rfl <;> rfl
  · rw [if_neg c, if_neg (fun q => c (by rcases q with rfl | rfl | rfl | rfl | rfl | rfl | rfl | rfl | rfl | rfl <;> decide))]
    rfl
theorem pyr_code (w : Int32) : cd1 (pyrE w) = mpyE w := by
  unfold pyrE mpyE
  by_cases c : inB w (nI 0) (nI 3) = true
  · rw [if_pos c]
    obtain ⟨k, hk, rfl⟩ := inB_of (by decide) c
    have : k = 0 ∨ k = 1 ∨ k = 2 ∨ k = 3 := by omega
    rcases this with rfl | rfl | rfl | rfl <;> rfl
  · rw [if_neg c, if_neg (fun q => c (by rcases q with rfl | rfl | rfl | rfl <;> decide))]
    rfl
