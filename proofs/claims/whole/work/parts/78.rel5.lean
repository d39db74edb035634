/-! class and model: the same plays -/
def Rx (P : Nat) (x' : xPo) (x : xLp) (c : Nat) : Prop :=
  (x' = (true, false, 0, 0) ∧ x = (false, 0, 100) ∧ c = 0) ∨ (x'.1 = false ∧ x.1 = x'.2.1 ∧ x.2.1 = x'.2.2.1 ∧ x.2.2 = x'.2.2.2 ∧ x'.2.2.2 ≤ P ∧ 1 ≤ x'.2.2.1 ∧ 0 < c)
def tdS (N : List Nat) (T : xTb) (D : List Nat) (s : Nat) : Prop := D.getD (4 * s) 0 = (if T.1.getD s false = true then 1 else 0) ∧ D.getD (4 * s + 1) 0 = (if T.2.1.getD s 0 = 0 then 1 else 0) ∧ D.getD (4 * s + 2) 0 = T.2.1.getD s 0 ∧ D.getD (4 * s + 3) 0 = T.2.2.getD s 0 ∧ T.2.2.getD s 0 ≤ pop (gS (s / 2)) ∧ (T.2.1.getD s 0 = 0 ↔ mthL N (gS (s / 2)) (s - s / 2 * 2) 15 0 0 = 0)
def tdR (N : List Nat) (T : xTb) (D : List Nat) (n : Nat) : Prop := ∀ s, s < n → tdS N T D s
theorem pop15 (m : Nat) : pop m ≤ 15 := by
  have key : ∀ k, popN k m ≤ k := by
    intro k
    induction k with
    | zero => exact Nat.le_refl _
    | succ k ih =>
      have h : m >>> k &&& 1 ≤ 1 := Nat.and_le_right
      show popN k m + (m >>> k &&& 1) ≤ k + 1
      omega
  exact key 15
theorem Rx_step {N : List Nat} {T : xTb} {D : List Nat} {P s c : Nat} {x' : xPo} {x : xLp} (hP : P ≤ 15) (h : tdS N T D s) (hs : T.2.2.getD s 0 + 1 ≤ P) (r : Rx P x' x c) : Rx P (poS T s x') (lpS D (4 * s) x) (c + 1) := by
  obtain ⟨h1, h2, h3, h4, h5, _⟩ := h
  refine Or.inr ?_
  unfold poS lpS
  dsimp only
  rw [h1, h3, h4]
  have eb : ((if T.1.getD s false = true then 1 else 0 : Nat) == 0) = !T.1.getD s false := by
    cases T.1.getD s false <;> rfl
  rw [eb]
  rcases r with ⟨rfl, rfl, rfl⟩ | ⟨r1, r2, r3, r4, r5, r6, r7⟩
  · dsimp only
    refine ⟨rfl, rfl, ?_, ?_, ?_, ?_, by omega⟩
    · rw [if_pos (by omega)]; omega
    · rw [if_pos (by omega), if_pos rfl]
    · rw [if_pos rfl]; omega
    · omega
  · rw [r1, r2, r3, r4]
    refine ⟨rfl, rfl, ?_, ?_, ?_, ?_, by omega⟩
    · split <;> omega
    · simp only [Bool.false_eq_true, if_false]; split <;> omega
    · simp only [Bool.false_eq_true, if_false]; omega
    · omega
def gdB (T : xTb) (bar : Bool) (t m r most b : Nat) (x : xPo) : xPo := if b ≤ most then poO T (sbO bar t m r b) x else x
theorem Rx_gd {N : List Nat} {T : xTb} {D : List Nat} {i t r b c : Nat} {x' : xPo} {x : xLp} (h7 : N.getD 7 0 < 2) (hi : i < 132) (ht : t < 2) (hr : r < 5) (hb : 1 ≤ b) (hb3 : b ≤ 3) (td : tdR N T D (2 * i + t)) (rx : Rx (pop (gS i)) x' x c) :
    Rx (pop (gS i)) (gdB T (N.getD 7 0 == 1) t (gS i) r (N.getD 6 0) b x') (if mrsN N (gS i) t r b = 0 then lpS D (8 * (slotN (mfN (mrN (gS i) t r b))).getD 0 + 4 - 4 * t) x else x) (c + if mrsN N (gS i) t r b = 0 then 1 else 0) := by
  unfold gdB
  by_cases z : mrsN N (gS i) t r b = 0
  · obtain ⟨z1, z2⟩ := (pm_of h7).mp z
    obtain ⟨a, ha, hs, hm, hp, hsb⟩ := beh hi ht hr hb hb3 z2
    rw [if_pos z1, if_pos z, if_pos z, hsb, hs]
    have e : 8 * (some a).getD 0 + 4 - 4 * t = 4 * (2 * a + (1 - t)) := by
      show 8 * a + 4 - 4 * t = _
      omega
    rw [e]
    have q := td (2 * a + (1 - t)) (by omega)
    have q5 := q.2.2.2.2.1
    have e2 : (2 * a + (1 - t)) / 2 = a := by omega
    rw [e2] at q5
    exact Rx_step (pop15 _) q (by omega) rx
  · rw [if_neg z, if_neg z]
    by_cases z1 : b ≤ N.getD 6 0
    · have z2 : pmB (N.getD 7 0 == 1) (gS i) t r b = false := fal_of (fun q => z ((pm_of h7).mpr ⟨z1, q⟩))
      rw [if_pos z1, nbeh hi ht hr hb hb3 z2]
      exact rx
    · rw [if_neg z1]
      exact rx
theorem poB_gd (T : xTb) (bar : Bool) (t m r most : Nat) (x : xPo) (h1 : 1 ≤ most) (h3 : most < 4) : poB T bar t m r most 1 x = gdB T bar t m r most 3 (gdB T bar t m r most 2 (gdB T bar t m r most 1 x)) := by
  have : most = 1 ∨ most = 2 ∨ most = 3 := by omega
  rcases this with rfl | rfl | rfl <;> rfl
theorem Rx_rows {N : List Nat} {T : xTb} {D : List Nat} {i t : Nat} (ok : stM N) (hi : i < 132) (ht : t < 2) (td : tdR N T D (2 * i + t)) : ∀ (j r c : Nat) (x' : xPo) (x : xLp), r + j = 5 → Rx (pop (gS i)) x' x c →
    Rx (pop (gS i)) (poR T (N.getD 7 0 == 1) t (gS i) (N.getD 6 0) j r x') (lpL N D (gS i) t (3 * j) (3 * r) x) (mthL N (gS i) t (3 * j) (3 * r) c)
  | 0, _, _, _, _, _, rx => rx
  | j + 1, r, c, x', x, h, rx => by
    have hr : r < 5 := by omega
    have h7 := ok.2.2.2.2.2.1
    have ej : 3 * (j + 1) = 3 * j + 1 + 1 + 1 := by omega
    have d0 : 3 * r / 3 = r := by omega
    have d1 : (3 * r + 1) / 3 = r := by omega
    have d2 : (3 * r + 1 + 1) / 3 = r := by omega
    have m0 : 1 + (3 * r - r * 3) = 1 := by omega
    have m1 : 1 + (3 * r + 1 - r * 3) = 2 := by omega
    have m2 : 1 + (3 * r + 1 + 1 - r * 3) = 3 := by omega
    have er : 3 * r + 1 + 1 + 1 = 3 * (r + 1) := by omega
    rw [ej, mthL, mthL, mthL, lpL, lpL, lpL, poR, poB_gd _ _ _ _ _ _ _ ok.2.2.2.1 ok.2.2.2.2.1]
    unfold otN
    rw [d0, d1, d2, m0, m1, m2, er]
    exact Rx_rows ok hi ht td j (r + 1) _ _ _ (by omega) (Rx_gd h7 hi ht hr (by decide) (by decide) td (Rx_gd h7 hi ht hr (by decide) (by decide) td (Rx_gd h7 hi ht hr (by decide) (by decide) td rx)))
theorem gb_set {l : List Bool} {i : Nat} {v : Bool} (h : i < l.length) : (l.set i v).getD i false = v := by
  rw [List.getD_eq_getElem?_getD, List.getElem?_set_self h]
  rfl
theorem gb_ne {l : List Bool} {i j : Nat} {v : Bool} (h : i ≠ j) : (l.set i v).getD j false = l.getD j false := by
  rw [List.getD_eq_getElem?_getD, List.getElem?_set_ne h, List.getD_eq_getElem?_getD]
theorem td_step {N : List Nat} {T : xTb} {D : List Nat} {i t : Nat} (ok : stM N) (hi : i < 132) (ht : t < 2) (hT : tb3 T) (hD : D.length = 1056) (td : tdR N T D (2 * i + t)) :
    tdR N (poT T (N.getD 7 0 == 1) (N.getD 8 0 == 1) (N.getD 6 0) t i) (loD N D i t) (2 * i + t + 1) := by
  have rx := Rx_rows (D := D) ok hi ht td 5 0 0 (true, false, 0, 0) (false, 0, 100) rfl (Or.inl ⟨rfl, rfl, rfl⟩)
  obtain ⟨n1, n2, n3⟩ := hT
  have el : 8 * i + 4 * t = 4 * (2 * i + t) := by omega
  intro s hs
  unfold poT loD loX tdS
  rw [el]
  rcases Nat.lt_or_ge s (2 * i + t) with z | z
  · have q := td s z
    dsimp only
    rw [gb_ne (by omega), gs_ne (by omega), gs_ne (by omega), gs_ne (by omega), gs_ne (by omega), gs_ne (by omega), gs_ne (by omega), gs_ne (by omega), gs_ne (by omega), gs_ne (by omega), gs_ne (by omega), gs_ne (by omega), gs_ne (by omega), gs_ne (by omega), gs_ne (by omega), gs_ne (by omega), gs_ne (by omega), gs_ne (by omega), gs_ne (by omega)]
    exact q
  · obtain rfl : s = 2 * i + t := by omega
    have e2 : (2 * i + t) / 2 = i := by omega
    dsimp only
    have l1 : ∀ a b c d, ((((D.set (4 * (2 * i + t)) a).set (4 * (2 * i + t) + 1) b).set (4 * (2 * i + t) + 2) c).set (4 * (2 * i + t) + 3) d).getD (4 * (2 * i + t)) 0 = a := fun a b c d => by rw [gs_ne (by omega), gs_ne (by omega), gs_ne (by omega), gs_eq (by omega)]
    have l2 : ∀ a b c d, ((((D.set (4 * (2 * i + t)) a).set (4 * (2 * i + t) + 1) b).set (4 * (2 * i + t) + 2) c).set (4 * (2 * i + t) + 3) d).getD (4 * (2 * i + t) + 1) 0 = b := fun a b c d => by rw [gs_ne (by omega), gs_ne (by omega), gs_eq (by simp only [List.length_set]; omega)]
    have l3 : ∀ a b c d, ((((D.set (4 * (2 * i + t)) a).set (4 * (2 * i + t) + 1) b).set (4 * (2 * i + t) + 2) c).set (4 * (2 * i + t) + 3) d).getD (4 * (2 * i + t) + 2) 0 = c := fun a b c d => by rw [gs_ne (by omega), gs_eq (by simp only [List.length_set]; omega)]
    have l4 : ∀ a b c d, ((((D.set (4 * (2 * i + t)) a).set (4 * (2 * i + t) + 1) b).set (4 * (2 * i + t) + 2) c).set (4 * (2 * i + t) + 3) d).getD (4 * (2 * i + t) + 3) 0 = d := fun a b c d => by rw [gs_eq (by simp only [List.length_set]; omega)]
    rw [l1, l2, l3, l4, gb_set (by omega), gs_eq (by omega), gs_eq (by omega), e2]
    have e3 : 2 * i + t - i * 2 = t := by omega
    rw [e3]
    show _ ∧ _ ∧ _ ∧ _ ∧ (poN T (N.getD 7 0 == 1) t (gS i) (N.getD 6 0)).2.2.2 ≤ pop (gS i) ∧ _
    have rx : Rx (pop (gS i)) (poN T (N.getD 7 0 == 1) t (gS i) (N.getD 6 0)) (lpL N D (gS i) t 15 0 (false, 0, 100)) (mthL N (gS i) t 15 0 0) := rx
    generalize poN T (N.getD 7 0 == 1) t (gS i) (N.getD 6 0) = x' at *
    generalize lpL N D (gS i) t 15 0 (false, 0, 100) = x at *
    generalize mthL N (gS i) t 15 0 0 = c at *
    rcases rx with ⟨rfl, rfl, rfl⟩ | ⟨r1, r2, r3, r4, r5, r6, r7⟩
    · exact ⟨rfl, rfl, rfl, rfl, Nat.zero_le _, fun _ => rfl, fun _ => rfl⟩
    · have hc : ¬ c = 0 := by omega
      rw [if_neg hc, if_neg hc]
      refine ⟨?_, ?_, r3, r4, r5, fun q => by omega, fun q => (hc q).elim⟩
      · rw [r1, r2]; rfl
      · rw [if_neg (by omega)]
theorem td_all {N : List Nat} (ok : stM N) : ∀ (j i : Nat) (T : xTb) (D : List Nat), i + j = 132 → tb3 T → D.length = 1056 → tdR N T D (2 * i) → tdR N (plL (N.getD 6 0) (N.getD 7 0 == 1) (N.getD 8 0 == 1) j i T) (laL N (2 * j) (2 * i) D) 264
  | 0, i, T, D, h, _, _, td => by
    obtain rfl : i = 132 := by omega
    exact td
  | j + 1, i, T, D, h, hT, hD, td => by
    have e1 : 2 * (j + 1) = 2 * j + 1 + 1 := by omega
    have e2 : 2 * i / 2 = i := by omega
    have e3 : (2 * i + 1) / 2 = i := by omega
    have e4 : 2 * i - i * 2 = 0 := by omega
    have e5 : 2 * i + 1 - i * 2 = 1 := by omega
    have e6 : 2 * i + 1 + 1 = 2 * (i + 1) := by omega
    rw [e1, laL, laL, plL, e2, e3, e4, e5, e6]
    have s0 := td_step (t := 0) ok (by omega) (by decide) hT hD td
    have s1 := td_step (t := 1) ok (by omega) (by decide) (poT_n hT) ((loD_len _ _ _ _).trans hD) s0
    rw [e6] at s1
    exact td_all ok j (i + 1) _ _ (by omega) (poT_n (poT_n hT)) ((loD_len _ _ _ _).trans ((loD_len _ _ _ _).trans hD)) s1
/-- the tables that a row of the model's numbers asks for -/
def plM (N : List Nat) : xTb := plT (N.getD 6 0) (N.getD 7 0 == 1) (N.getD 8 0 == 1)
theorem td_lay {N D : List Nat} (ok : stM N) (hD : D.length = 1056) : tdR N (plM N) (laL N 264 0 D) 264 := td_all ok 132 0 T00 D rfl T00_3 hD (fun s hs => absurd hs (Nat.not_lt_zero s))
def tdI (laid : Int32) (D : List Nat) : Prop := D.length = 1056 ∧ (∀ q, D.getD q 0 < 2 ^ 20) ∧ ∀ N, stM N → nI (sI N) = laid → tdR N (plM N) D 264
theorem sI_lt {N : List Nat} (ok : stM N) : sI N < 1000 := by
  obtain ⟨hN, h0, h1, h6, h6', h7, h8⟩ := ok
  unfold sI
  omega
theorem mth_cg {N N' : List Nat} (a : N.getD 6 0 = N'.getD 6 0) (b : N.getD 7 0 = N'.getD 7 0) (m t : Nat) : ∀ (j k s : Nat), mthL N m t j k s = mthL N' m t j k s
  | 0, _, _ => rfl
  | j + 1, k, s => by
    have e : mrsN N m t (k / 3) (1 + (k - k / 3 * 3)) = mrsN N' m t (k / 3) (1 + (k - k / 3 * 3)) := by
      unfold mrsN
      rw [a, b]
    rw [mthL, mthL, e]
    exact mth_cg a b m t j _ _
theorem td_cg {N N' : List Nat} {T : xTb} {D : List Nat} {n : Nat} (a : N.getD 6 0 = N'.getD 6 0) (b : N.getD 7 0 = N'.getD 7 0) (h : tdR N T D n) : tdR N' T D n := by
  intro s hs
  obtain ⟨h1, h2, h3, h4, h5, h6⟩ := h s hs
  exact ⟨h1, h2, h3, h4, h5, by rw [← mth_cg a b]; exact h6⟩
theorem sI_inj {N N' : List Nat} (ok : stM N) (ok' : stM N') (h : nI (sI N) = nI (sI N')) : plM N = plM N' ∧ N.getD 6 0 = N'.getD 6 0 ∧ N.getD 7 0 = N'.getD 7 0 := by
  have e := (n_eq (by have := sI_lt ok; omega) (by have := sI_lt ok'; omega)).mp h
  obtain ⟨hN, h0, h1, h6, h6', h7, h8⟩ := ok
  obtain ⟨hN2, h02, h12, h62, h62', h72, h82⟩ := ok'
  unfold sI at e
  have a : N.getD 6 0 = N'.getD 6 0 := by omega
  have b : N.getD 7 0 = N'.getD 7 0 := by omega
  have c : N.getD 8 0 = N'.getD 8 0 := by omega
  refine ⟨?_, a, b⟩
  unfold plM
  rw [a, b, c]
theorem td_lt {N : List Nat} {T : xTb} {D : List Nat} (td : tdR N T D 264) (hT : tbB T 264) (hD : D.length = 1056) : ∀ q, D.getD q 0 < 2 ^ 20 := by
  intro q
  rcases Nat.lt_or_ge q 1056 with z | z
  · obtain ⟨h1, h2, h3, h4, _⟩ := td (q / 4) (by omega)
    have b1 := hT.1 (q / 4)
    have b2 := hT.2 (q / 4)
    have : q = 4 * (q / 4) ∨ q = 4 * (q / 4) + 1 ∨ q = 4 * (q / 4) + 2 ∨ q = 4 * (q / 4) + 3 := by omega
    rcases this with e | e | e | e <;> rw [e]
    · rw [h1]; split <;> decide
    · rw [h2]; split <;> decide
    · rw [h3]; omega
    · rw [h4]; omega
  · rw [List.getD_eq_getElem?_getD, List.getElem?_eq_none (by omega)]
    decide
theorem td_use {N D : List Nat} {laid : Int32} (ok : stM N) (h : tdI laid D) : tdR N (plM N) (laD N laid D) 264 ∧ (∀ q, (laD N laid D).getD q 0 < 2 ^ 20) ∧ tdI (nI (sI N)) (laD N laid D) := by
  have k : tdR N (plM N) (laD N laid D) 264 := by
    unfold laD
    by_cases e : nI (sI N) = laid
    · rw [if_pos e]
      exact h.2.2 N ok e
    · rw [if_neg e]
      exact td_lay ok h.1
  have hl := (laD_ok (N := N) (laid := laid) h.1 h.2.1).1
  have hb := td_lt k (plT_B _ _ _) hl
  refine ⟨k, hb, hl, hb, fun N' ok' e => ?_⟩
  obtain ⟨e1, e2, e3⟩ := sI_inj ok ok' e.symm
  rw [← e1]
  exact td_cg e2 e3 k
theorem tdI_0 : tdI (-1) (List.replicate 1056 0) := by
  refine ⟨List.length_replicate, fun q => ?_, fun N ok e => ?_⟩
  · exact Nat.lt_of_le_of_lt (rep_le _ _) (by decide)
  · exact ((n_m1e (by have := sI_lt ok; omega)).mp e).elim
