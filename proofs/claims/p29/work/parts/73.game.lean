/-! ===== the games of all shapes: what a finished table says ===== -/
def bhB (bar : Bool) (t m r : Nat) : Nat → Nat → List Nat
  | 0, _ => []
  | j + 1, b => (sbO bar t m r b).toList ++ bhB bar t m r j (b + 1)
def bhR (bar : Bool) (t m most : Nat) : Nat → Nat → List Nat
  | 0, _ => []
  | j + 1, r => bhB bar t m r most 1 ++ bhR bar t m most j (r + 1)
/-- where what lies behind the possible thefts stands -/
def bhL (bar : Bool) (t m most : Nat) : List Nat := bhR bar t m most 5 0
def poF (T : xTb) (l : List Nat) (x : xPo) : xPo := l.foldl (fun x s => poS T s x) x
theorem poF_app (T : xTb) (l l' : List Nat) (x : xPo) : poF T (l ++ l') x = poF T l' (poF T l x) := List.foldl_append
theorem poO_F (T : xTb) (o : Option Nat) (x : xPo) : poO T o x = poF T o.toList x := by cases o <;> rfl
theorem poB_F (T : xTb) (bar : Bool) (t m r : Nat) : ∀ (j b : Nat) (x : xPo), poB T bar t m r j b x = poF T (bhB bar t m r j b) x
  | 0, _, _ => rfl
  | j + 1, b, x => by
    rw [poB, bhB, poF_app, poO_F]
    exact poB_F T bar t m r j (b + 1) _
theorem poR_F (T : xTb) (bar : Bool) (t m most : Nat) : ∀ (j r : Nat) (x : xPo), poR T bar t m most j r x = poF T (bhR bar t m most j r) x
  | 0, _, _ => rfl
  | j + 1, r, x => by
    rw [poR, bhR, poF_app, poB_F]
    exact poR_F T bar t m most j (r + 1) _
theorem poN_F (T : xTb) (bar : Bool) (t m most : Nat) : poN T bar t m most = poF T (bhL bar t m most) (true, false, 0, 0) := poR_F T bar t m most 5 0 _
theorem bhB_mem {bar : Bool} {t m r s : Nat} : ∀ {j b : Nat}, s ∈ bhB bar t m r j b → ∃ b', b ≤ b' ∧ b' < b + j ∧ sbO bar t m r b' = some s
  | 0, _, h => nomatch h
  | j + 1, b, h => by
    rw [bhB] at h
    rcases List.mem_append.mp h with h | h
    · exact ⟨b, Nat.le_refl _, by omega, Option.mem_toList.mp h⟩
    · obtain ⟨b', h1, h2, h3⟩ := bhB_mem h
      exact ⟨b', by omega, by omega, h3⟩
theorem bhR_mem {bar : Bool} {t m most s : Nat} : ∀ {j r : Nat}, s ∈ bhR bar t m most j r → ∃ r' b', r ≤ r' ∧ r' < r + j ∧ 1 ≤ b' ∧ b' ≤ most ∧ sbO bar t m r' b' = some s
  | 0, _, h => nomatch h
  | j + 1, r, h => by
    rw [bhR] at h
    rcases List.mem_append.mp h with h | h
    · obtain ⟨b', h1, h2, h3⟩ := bhB_mem h
      exact ⟨r, b', Nat.le_refl _, by omega, h1, by omega, h3⟩
    · obtain ⟨r', b', h1, h2, h3⟩ := bhR_mem h
      exact ⟨r', b', by omega, by omega, h3⟩
theorem bhB_in {bar : Bool} {t m r s b' : Nat} : ∀ {j b : Nat}, b ≤ b' → b' < b + j → sbO bar t m r b' = some s → s ∈ bhB bar t m r j b
  | 0, _, h1, h2, _ => by omega
  | j + 1, b, h1, h2, h3 => by
    rw [bhB]
    by_cases e : b = b'
    · subst e
      exact List.mem_append_left _ (Option.mem_toList.mpr h3)
    · exact List.mem_append_right _ (bhB_in (by omega) (by omega) h3)
theorem bhR_in {bar : Bool} {t m most s r' b' : Nat} (hb : 1 ≤ b') (hb2 : b' ≤ most) : ∀ {j r : Nat}, r ≤ r' → r' < r + j → sbO bar t m r' b' = some s → s ∈ bhR bar t m most j r
  | 0, _, h1, h2, _ => by omega
  | j + 1, r, h1, h2, h3 => by
    rw [bhR]
    by_cases e : r = r'
    · subst e
      exact List.mem_append_left _ (bhB_in hb (by omega) h3)
    · exact List.mem_append_right _ (bhR_in hb hb2 (by omega) (by omega) h3)
theorem bhL_mem {bar : Bool} {t m most s : Nat} (h : s ∈ bhL bar t m most) : ∃ r b, r < 5 ∧ 1 ≤ b ∧ b ≤ most ∧ sbO bar t m r b = some s := by
  obtain ⟨r, b, h1, h2, h3, h4, h5⟩ := bhR_mem h
  exact ⟨r, b, by omega, h3, h4, h5⟩
theorem bhL_in {bar : Bool} {t m most s r b : Nat} (hr : r < 5) (hb : 1 ≤ b) (hb2 : b ≤ most) (h : sbO bar t m r b = some s) : s ∈ bhL bar t m most := bhR_in hb hb2 (Nat.zero_le _) (by omega) h
/-- what comes of a theft stands below -/
theorem sb_low {bar : Bool} {i t r b s : Nat} (hi : i < 132) (ht : t < 2) (hr : r < 5) (hb : 1 ≤ b) (hb5 : b ≤ 5) (h : sbO bar t (gS i) r b = some s) :
    (robN (gS i) t r b).2 = 0 ∧ ∃ a, a < i ∧ slotN (settledN (robN (gS i) t r b).1) = some a ∧ gS a = settledN (robN (gS i) t r b).1 ∧ s = 2 * a + (1 - t) := by
  unfold sbO at h
  by_cases h1 : (robN (gS i) t r b).2 = 0
  · rw [if_pos h1] at h
    split at h
    · exact nomatch h
    · obtain ⟨-, -, -, ⟨a, c, e1, e2, e3⟩, -⟩ := q_th (shp_i hi) ht hr hb hb5 h1
      rw [e1] at h
      rw [slot_gS hi] at e2
      obtain rfl := Option.some.inj e2
      exact ⟨h1, a, e3, e1, (gS_of e1).2, (Option.some.inj h).symm⟩
  · rw [if_neg h1] at h
    exact nomatch h
theorem bh_low {bar : Bool} {i t most s : Nat} (hi : i < 132) (ht : t < 2) (hm : most ≤ 5) (h : s ∈ bhL bar t (gS i) most) : ∃ a, a < i ∧ s = 2 * a + (1 - t) ∧ pop (gS a) < pop (gS i) := by
  obtain ⟨r, b, h1, h2, h3, h4⟩ := bhL_mem h
  obtain ⟨h0, a, e1, e2, e3, e4⟩ := sb_low hi ht h1 h2 (by omega) h4
  obtain ⟨k1, k2, -⟩ := q_th (shp_i hi) ht h1 h2 (by omega) h0
  exact ⟨a, e1, e4, by rw [e3]; omega⟩
def agT (T T' : xTb) (n : Nat) : Prop := ∀ s, s < n → T.1.getD s false = T'.1.getD s false ∧ T.2.1.getD s 0 = T'.2.1.getD s 0 ∧ T.2.2.getD s 0 = T'.2.2.getD s 0
theorem poF_ag {T T' : xTb} {n : Nat} (h : agT T T' n) : ∀ (l : List Nat) (x : xPo), (∀ s ∈ l, s < n) → poF T l x = poF T' l x
  | [], _, _ => rfl
  | s :: l, x, hl => by
    obtain ⟨h1, h2, h3⟩ := h s (hl s List.mem_cons_self)
    have e : poS T s x = poS T' s x := by unfold poS; rw [h1, h2, h3]
    show poF T l (poS T s x) = poF T' l (poS T' s x)
    rw [e]
    exact poF_ag h l _ (fun s hs => hl s (List.mem_cons_of_mem _ hs))
theorem poN_ag {T T' : xTb} {bar : Bool} {i t most : Nat} (hi : i < 132) (ht : t < 2) (hm : most ≤ 5) (h : agT T T' (2 * i)) : poN T bar t (gS i) most = poN T' bar t (gS i) most := by
  rw [poN_F, poN_F]
  refine poF_ag h _ _ fun s hs => ?_
  obtain ⟨a, h1, h2, -⟩ := bh_low hi ht hm hs
  omega
/-- the recurrence at a place -/
def rcT (T : xTb) (bar wo : Bool) (most i t : Nat) : Prop := T.1.getD (2 * i + t) false = (if (poN T bar t (gS i) most).1 then wo else (poN T bar t (gS i) most).2.1) ∧ T.2.1.getD (2 * i + t) 0 = (poN T bar t (gS i) most).2.2.1 ∧ T.2.2.getD (2 * i + t) 0 = (poN T bar t (gS i) most).2.2.2
theorem gb_set {l : List Bool} {i : Nat} {v : Bool} (h : i < l.length) : (l.set i v).getD i false = v := by
  rw [List.getD_eq_getElem?_getD, List.getElem?_set_self h]
  rfl
theorem gb_ne {l : List Bool} {i j : Nat} {v : Bool} (h : i ≠ j) : (l.set i v).getD j false = l.getD j false := by
  rw [List.getD_eq_getElem?_getD, List.getElem?_set_ne h, List.getD_eq_getElem?_getD]
theorem poT_ag {T : xTb} {bar wo : Bool} {most t i s : Nat} (h : s ≠ 2 * i + t) : (poT T bar wo most t i).1.getD s false = T.1.getD s false ∧ (poT T bar wo most t i).2.1.getD s 0 = T.2.1.getD s 0 ∧ (poT T bar wo most t i).2.2.getD s 0 = T.2.2.getD s 0 :=
  ⟨gb_ne h.symm, gs_ne h.symm, gs_ne h.symm⟩
theorem poT_at {T : xTb} {bar wo : Bool} {most t i : Nat} (n : tb3 T) (hi : i < 132) (ht : t < 2) : (poT T bar wo most t i).1.getD (2 * i + t) false = (if (poN T bar t (gS i) most).1 then wo else (poN T bar t (gS i) most).2.1) ∧
    (poT T bar wo most t i).2.1.getD (2 * i + t) 0 = (poN T bar t (gS i) most).2.2.1 ∧ (poT T bar wo most t i).2.2.getD (2 * i + t) 0 = (poN T bar t (gS i) most).2.2.2 := by
  obtain ⟨n1, n2, n3⟩ := n
  exact ⟨gb_set (by omega), gs_eq (by omega), gs_eq (by omega)⟩
theorem rc_ag {T T' : xTb} {bar wo : Bool} {most i t : Nat} (hi : i < 132) (ht : t < 2) (hm : most ≤ 5) (h : agT T T' (2 * i)) (h2 : T.1.getD (2 * i + t) false = T'.1.getD (2 * i + t) false ∧ T.2.1.getD (2 * i + t) 0 = T'.2.1.getD (2 * i + t) 0 ∧ T.2.2.getD (2 * i + t) 0 = T'.2.2.getD (2 * i + t) 0) (rc : rcT T bar wo most i t) : rcT T' bar wo most i t := by
  unfold rcT at rc ⊢
  rw [← h2.1, ← h2.2.1, ← h2.2.2, ← poN_ag hi ht hm h]
  exact rc
theorem rc_all {bar wo : Bool} {most : Nat} (hm : most ≤ 5) : ∀ (j i : Nat) (T : xTb), i + j = 132 → tb3 T → (∀ k, k < i → ∀ t, t < 2 → rcT T bar wo most k t) → ∀ k, k < 132 → ∀ t, t < 2 → rcT (plL most bar wo j i T) bar wo most k t
  | 0, i, T, hi, _, h, k, hk, t, ht => h k (by omega) t ht
  | j + 1, i, T, hi, n, h, k, hk, t, ht => by
    rw [plL]
    have n1 := poT_n (bar := bar) (wo := wo) (most := most) (t := 0) (i := i) n
    refine rc_all hm j (i + 1) _ (by omega) (poT_n n1) ?_ k hk t ht
    intro k hk t ht
    have ag0 : ∀ s, s < 2 * i → _ := fun s hs => poT_ag (T := T) (bar := bar) (wo := wo) (most := most) (t := 0) (i := i) (s := s) (by omega)
    have ag1 : ∀ s, s < 2 * i + 1 → _ := fun s hs => poT_ag (T := poT T bar wo most 0 i) (bar := bar) (wo := wo) (most := most) (t := 1) (i := i) (s := s) (by omega)
    have ag2 : agT T (poT (poT T bar wo most 0 i) bar wo most 1 i) (2 * i) := fun s hs => by
      obtain ⟨a1, a2, a3⟩ := ag0 s hs
      obtain ⟨b1, b2, b3⟩ := ag1 s (by omega)
      exact ⟨by rw [b1, a1], by rw [b2, a2], by rw [b3, a3]⟩
    by_cases e : k < i
    · exact rc_ag (by omega) ht hm (fun s hs => ag2 s (by omega)) (ag2 _ (by omega)) (h k e t ht)
    · obtain rfl : k = i := by omega
      unfold rcT
      rw [← poN_ag (by omega) ht hm ag2]
      have ht2 : t = 0 ∨ t = 1 := by omega
      rcases ht2 with rfl | rfl
      · obtain ⟨b1, b2, b3⟩ := ag1 (2 * k + 0) (by omega)
        rw [b1, b2, b3]
        exact poT_at n (by omega) (by decide)
      · have e1 : poN T bar 1 (gS k) most = poN (poT T bar wo most 0 k) bar 1 (gS k) most := poN_ag (by omega) (by decide) hm (fun s hs => by
          obtain ⟨a1, a2, a3⟩ := ag0 s hs
          exact ⟨a1.symm, a2.symm, a3.symm⟩)
        rw [e1]
        exact poT_at n1 (by omega) (by decide)
theorem rc_pl {bar wo : Bool} {most i t : Nat} (hm : most ≤ 5) (hi : i < 132) (ht : t < 2) : rcT (plT most bar wo) bar wo most i t := rc_all hm 132 0 T00 rfl T00_3 (fun k hk => absurd hk (Nat.not_lt_zero k)) i hi t ht
/-! a run over what lies behind -/
theorem poF_1 (T : xTb) : ∀ (l : List Nat) (x : xPo), (poF T l x).1 = (x.1 && l.isEmpty)
  | [], x => by show x.1 = (x.1 && true); rw [Bool.and_true]
  | s :: l, x => by
    show (poF T l (poS T s x)).1 = _
    rw [poF_1 T l]
    show (false && l.isEmpty) = (x.1 && false)
    rw [Bool.and_false, Bool.false_and]
theorem poF_2 (T : xTb) : ∀ (l : List Nat) (x : xPo), (poF T l x).2.1 = (x.2.1 || l.any fun s => !T.1.getD s false)
  | [], x => by show x.2.1 = (x.2.1 || false); rw [Bool.or_false]
  | s :: l, x => by
    show (poF T l (poS T s x)).2.1 = _
    rw [poF_2 T l]
    show (x.2.1 || !T.1.getD s false || l.any _) = (x.2.1 || (!T.1.getD s false || l.any _))
    rw [Bool.or_assoc]
theorem poF_3 (T : xTb) : ∀ (l : List Nat) (x : xPo), x.2.2.1 ≤ (poF T l x).2.2.1 ∧ (∀ s ∈ l, T.2.1.getD s 0 + 1 ≤ (poF T l x).2.2.1) ∧ ∀ B, x.2.2.1 ≤ B → (∀ s ∈ l, T.2.1.getD s 0 + 1 ≤ B) → (poF T l x).2.2.1 ≤ B
  | [], x => ⟨Nat.le_refl _, fun s hs => (nomatch hs), fun B h _ => h⟩
  | s :: l, x => by
    obtain ⟨h1, h2, h3⟩ := poF_3 T l (poS T s x)
    have e : (poS T s x).2.2.1 = max x.2.2.1 (T.2.1.getD s 0 + 1) := rfl
    rw [e] at h1 h3
    refine ⟨Nat.le_trans (Nat.le_max_left _ _) h1, fun u hu => ?_, fun B hB hl => h3 B (Nat.max_le.mpr ⟨hB, hl s List.mem_cons_self⟩) (fun u hu => hl u (List.mem_cons_of_mem _ hu))⟩
    rcases List.mem_cons.mp hu with rfl | hu
    · exact Nat.le_trans (Nat.le_max_right _ _) h1
    · exact h2 u hu
theorem poF_4 (T : xTb) : ∀ (l : List Nat) (x : xPo), (x.1 = false → (poF T l x).2.2.2 ≤ x.2.2.2) ∧ (∀ s ∈ l, (poF T l x).2.2.2 ≤ T.2.2.getD s 0 + 1) ∧ ∀ B, (x.1 = false → B ≤ x.2.2.2) → (∀ s ∈ l, B ≤ T.2.2.getD s 0 + 1) → (poF T l x).1 = false → B ≤ (poF T l x).2.2.2
  | [], x => ⟨fun _ => Nat.le_refl _, fun s hs => (nomatch hs), fun B h _ h1 => h h1⟩
  | s :: l, x => by
    obtain ⟨h1, h2, h3⟩ := poF_4 T l (poS T s x)
    have e : (poS T s x).2.2.2 = if x.1 then T.2.2.getD s 0 + 1 else min x.2.2.2 (T.2.2.getD s 0 + 1) := rfl
    have e0 : (poS T s x).1 = false := rfl
    have h1 := h1 e0
    rw [e] at h1 h3
    refine ⟨fun z => ?_, fun u hu => ?_, fun B hB hl z => h3 B (fun _ => ?_) (fun u hu => hl u (List.mem_cons_of_mem _ hu)) z⟩
    · rw [z] at h1
      exact Nat.le_trans h1 (Nat.min_le_left _ _)
    · rcases List.mem_cons.mp hu with rfl | hu
      · cases hx : x.1 with
        | true => rw [hx] at h1; exact h1
        | false => rw [hx] at h1; exact Nat.le_trans h1 (Nat.min_le_right _ _)
      · exact h2 u hu
    · cases hx : x.1 with
      | true => exact hl s List.mem_cons_self
      | false => exact Nat.le_min.mpr ⟨hB hx, hl s List.mem_cons_self⟩
/-! ===== what the games say ===== -/
section GAME
variable {bar wo : Bool} {most i t : Nat}
abbrev gmT (most : Nat) (bar wo : Bool) : xTb := plT most bar wo
theorem gm_won (hm : most ≤ 5) (hi : i < 132) (ht : t < 2) : (plT most bar wo).1.getD (2 * i + t) false = if (bhL bar t (gS i) most).isEmpty then wo else (bhL bar t (gS i) most).any fun s => !(plT most bar wo).1.getD s false := by
  have h := (rc_pl (bar := bar) (wo := wo) hm hi ht).1
  rw [poN_F, poF_1, poF_2, Bool.true_and, Bool.false_or] at h
  exact h
theorem gm_lon (hm : most ≤ 5) (hi : i < 132) (ht : t < 2) : (∀ s ∈ bhL bar t (gS i) most, (plT most bar wo).2.1.getD s 0 + 1 ≤ (plT most bar wo).2.1.getD (2 * i + t) 0) ∧ ∀ B, (∀ s ∈ bhL bar t (gS i) most, (plT most bar wo).2.1.getD s 0 + 1 ≤ B) → (plT most bar wo).2.1.getD (2 * i + t) 0 ≤ B := by
  have h := (rc_pl (bar := bar) (wo := wo) hm hi ht).2.1
  rw [poN_F] at h
  obtain ⟨h1, h2, h3⟩ := poF_3 (plT most bar wo) (bhL bar t (gS i) most) (true, false, 0, 0)
  rw [h]
  exact ⟨h2, fun B hB => h3 B (Nat.zero_le _) hB⟩
theorem gm_sho (hm : most ≤ 5) (hi : i < 132) (ht : t < 2) : (∀ s ∈ bhL bar t (gS i) most, (plT most bar wo).2.2.getD (2 * i + t) 0 ≤ (plT most bar wo).2.2.getD s 0 + 1) ∧ (bhL bar t (gS i) most = [] → (plT most bar wo).2.2.getD (2 * i + t) 0 = 0) ∧ (bhL bar t (gS i) most ≠ [] → 1 ≤ (plT most bar wo).2.2.getD (2 * i + t) 0) := by
  have h := (rc_pl (bar := bar) (wo := wo) hm hi ht).2.2
  rw [poN_F] at h
  obtain ⟨h1, h2, h3⟩ := poF_4 (plT most bar wo) (bhL bar t (gS i) most) (true, false, 0, 0)
  rw [h]
  refine ⟨h2, fun e => by rw [e]; rfl, fun e => h3 1 (fun z => Bool.noConfusion z) (fun s _ => Nat.le_add_left _ _) ?_⟩
  rw [poF_1, Bool.true_and]
  cases hl : bhL bar t (gS i) most with
  | nil => exact absurd hl e
  | cons a l => rfl
theorem gm_len (hm : most ≤ 5) : ∀ n i, i < n → i < 132 → ∀ t, t < 2 → (plT most bar wo).2.2.getD (2 * i + t) 0 ≤ (plT most bar wo).2.1.getD (2 * i + t) 0 ∧ (plT most bar wo).2.1.getD (2 * i + t) 0 ≤ pop (gS i) := by
  intro n
  induction n with
  | zero => intro i h; omega
  | succ n ih =>
    intro i hn hi t ht
    obtain ⟨a1, a2⟩ := gm_lon (bar := bar) (wo := wo) hm hi ht
    obtain ⟨b1, b2, b3⟩ := gm_sho (bar := bar) (wo := wo) hm hi ht
    refine ⟨?_, a2 _ fun s hs => ?_⟩
    · cases hl : bhL bar t (gS i) most with
      | nil => rw [b2 hl]; exact Nat.zero_le _
      | cons s l =>
        have hs : s ∈ bhL bar t (gS i) most := by rw [hl]; exact List.mem_cons_self
        obtain ⟨a, e1, e2, -⟩ := bh_low hi ht hm hs
        have k := (ih a (by omega) (by omega) (1 - t) (by omega)).1
        rw [← e2] at k
        have k1 := a1 s hs
        have k2 := b1 s hs
        omega
    · obtain ⟨a, e1, e2, e3⟩ := bh_low hi ht hm hs
      have k := (ih a (by omega) (by omega) (1 - t) (by omega)).2
      rw [← e2] at k
      omega
theorem gm_over (hm : most ≤ 5) (hi : i < 132) (ht : t < 2) : ((plT most bar wo).2.1.getD (2 * i + t) 0 = 0 ↔ bhL bar t (gS i) most = []) ∧ ((plT most bar wo).2.2.getD (2 * i + t) 0 = 0 ↔ bhL bar t (gS i) most = []) := by
  obtain ⟨a1, a2⟩ := gm_lon (bar := bar) (wo := wo) hm hi ht
  obtain ⟨b1, b2, b3⟩ := gm_sho (bar := bar) (wo := wo) hm hi ht
  cases hl : bhL bar t (gS i) most with
  | nil =>
    refine ⟨⟨fun _ => rfl, fun _ => ?_⟩, ⟨fun _ => rfl, fun _ => b2 hl⟩⟩
    have := a2 0 (by rw [hl]; exact fun s hs => nomatch hs)
    omega
  | cons s l =>
    have k1 := a1 s (by rw [hl]; exact List.mem_cons_self)
    have k2 := b3 (by rw [hl]; exact List.cons_ne_nil _ _)
    exact ⟨⟨fun z => by omega, fun z => nomatch z⟩, ⟨fun z => by omega, fun z => nomatch z⟩⟩
end GAME
