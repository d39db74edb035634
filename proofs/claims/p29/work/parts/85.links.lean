/-! ===== wrappers and the law's methods agree with the tables ===== -/
def okAll (y : MethodName) (cc : ByteArray) (bl : List xB) (sk : Nat → Bool) : Bool := (List.range bl.length).all fun b => sk b || (match bl[b]? with
  | some B => okEs xT xKT y cc bl B.2.2 B.1 B.2.1
  | none => false)
theorem okAll_of {y : MethodName} {cc : ByteArray} {bl : List xB} {sk : Nat → Bool} (h : okAll y cc bl sk = true) {b : Nat} {B : xB} (hb : bl[b]? = some B) (hs : sk b = false) : okEs xT xKT y cc bl B.2.2 B.1 B.2.1 = true := by
  have hl : b < bl.length := (List.getElem?_eq_some_iff.mp hb).1
  have q := List.all_eq_true.mp h b (List.mem_range.mpr hl)
  rw [hs, hb] at q
  exact q
def E_take : List Value → xH → (Option Value → xH → Prop) → Prop := fun as h Q => (xfl as).length ≤ 4 ∧ EvW 20 b_W_take hb_take N_B_take 2 3 4 1 6 false as h Q
theorem wb_take : okAll yL_take cL_take b_W_take (fun b => b == 1) = true := by decide +kernel
set_option maxRecDepth 100000 in
theorem kn_take (hT : ∀ i q, xT[i]? = some q → okM xT xKT xHT i q = true) {l : Launch} (hfl : l.stackTraces = false) {sc : Option (List Int32)} : yKn l sc 21 1 6 false yL_take cL_take 4 (some .int) (.codeWith yL_take cL_take 4 (some .int) hh_take) E_take := by
  refine ⟨Or.inr ⟨hh_take, rfl⟩, ?_⟩
  rintro as h Q ⟨hlen, hev⟩ D cy ad sz
  refine x_met (w_met (q := m_B_take) (idx := 9) (pcC := 3) (hk := [10, 11, 12]) hT hfl (x_sound hT hfl 20) rfl rfl (by decide +kernel) ⟨_, rfl, rfl⟩ rfl rfl (fun b B hb h1 => okAll_of wb_take hb (beq_eq_false_iff_ne.mpr h1)) (by decide +kernel) (xat_e (i := 304) (by decide +kernel)) rfl rfl (by decide +kernel) (by decide) (by decide) ?_ hlen hev D cy ad sz) (by rintro E st t ⟨⟨k, h, ad, -, hx, -⟩, -⟩; exact hx)
  intro k b hb
  unfold hb_take at hb
  split at hb
  · next e =>
    subst e
    obtain rfl := Option.some.inj hb
    exact ⟨Or.inl rfl, 7, 1, _, rfl, rfl, rfl, Or.inr ⟨3, by decide +kernel, rfl, rfl⟩⟩
  · rename_i e0
    split at hb
    · next e =>
      subst e
      obtain rfl := Option.some.inj hb
      exact ⟨Or.inr (Or.inl rfl), 11, 1, _, rfl, rfl, rfl, Or.inr ⟨3, by decide +kernel, rfl, rfl⟩⟩
    · rename_i e1
      split at hb
      · next e =>
        subst e
        obtain rfl := Option.some.inj hb
        exact ⟨Or.inr (Or.inr rfl), 15, 1, _, rfl, rfl, rfl, Or.inr ⟨3, by decide +kernel, rfl, rfl⟩⟩
      · exact nomatch hb
def E_knock : List Value → xH → (Option Value → xH → Prop) → Prop := fun as h Q => (xfl as).length ≤ 4 ∧ EvW 20 b_W_knock hb_knock N_B_knock 2 3 4 1 6 false as h Q
theorem wb_knock : okAll yL_knock cL_knock b_W_knock (fun b => b == 1) = true := by decide +kernel
set_option maxRecDepth 100000 in
theorem kn_knock (hT : ∀ i q, xT[i]? = some q → okM xT xKT xHT i q = true) {l : Launch} (hfl : l.stackTraces = false) {sc : Option (List Int32)} : yKn l sc 21 1 6 false yL_knock cL_knock 4 (some .int) (.codeWith yL_knock cL_knock 4 (some .int) hh_knock) E_knock := by
  refine ⟨Or.inr ⟨hh_knock, rfl⟩, ?_⟩
  rintro as h Q ⟨hlen, hev⟩ D cy ad sz
  refine x_met (w_met (q := m_B_knock) (idx := 21) (pcC := 3) (hk := [10, 12]) hT hfl (x_sound hT hfl 20) rfl rfl (by decide +kernel) ⟨_, rfl, rfl⟩ rfl rfl (fun b B hb h1 => okAll_of wb_knock hb (beq_eq_false_iff_ne.mpr h1)) (by decide +kernel) (xat_e (i := 358) (by decide +kernel)) rfl rfl (by decide +kernel) (by decide) (by decide) ?_ hlen hev D cy ad sz) (by rintro E st t ⟨⟨k, h, ad, -, hx, -⟩, -⟩; exact hx)
  intro k b hb
  unfold hb_knock at hb
  split at hb
  · next e =>
    subst e
    obtain rfl := Option.some.inj hb
    exact ⟨Or.inl rfl, 7, 1, _, rfl, rfl, rfl, Or.inr ⟨3, by decide +kernel, rfl, rfl⟩⟩
  · rename_i e0
    split at hb
    · next e =>
      subst e
      obtain rfl := Option.some.inj hb
      exact ⟨Or.inr (Or.inr rfl), 11, 1, _, rfl, rfl, rfl, Or.inr ⟨3, by decide +kernel, rfl, rfl⟩⟩
    · exact nomatch hb
def E_put : List Value → xH → (Option Value → xH → Prop) → Prop := fun as h Q => (xfl as).length ≤ 4 ∧ EvW 20 b_W_put hb_put N_B_put 2 3 4 1 6 false as h Q
theorem wb_put : okAll yL_put cL_put b_W_put (fun b => b == 1) = true := by decide +kernel
set_option maxRecDepth 100000 in
theorem kn_put (hT : ∀ i q, xT[i]? = some q → okM xT xKT xHT i q = true) {l : Launch} (hfl : l.stackTraces = false) {sc : Option (List Int32)} : yKn l sc 21 1 6 false yL_put cL_put 4 (some .int) (.codeWith yL_put cL_put 4 (some .int) hh_put) E_put := by
  refine ⟨Or.inr ⟨hh_put, rfl⟩, ?_⟩
  rintro as h Q ⟨hlen, hev⟩ D cy ad sz
  refine x_met (w_met (q := m_B_put) (idx := 24) (pcC := 3) (hk := [10, 12]) hT hfl (x_sound hT hfl 20) rfl rfl (by decide +kernel) ⟨_, rfl, rfl⟩ rfl rfl (fun b B hb h1 => okAll_of wb_put hb (beq_eq_false_iff_ne.mpr h1)) (by decide +kernel) (xat_e (i := 381) (by decide +kernel)) rfl rfl (by decide +kernel) (by decide) (by decide) ?_ hlen hev D cy ad sz) (by rintro E st t ⟨⟨k, h, ad, -, hx, -⟩, -⟩; exact hx)
  intro k b hb
  unfold hb_put at hb
  split at hb
  · next e =>
    subst e
    obtain rfl := Option.some.inj hb
    exact ⟨Or.inl rfl, 7, 1, _, rfl, rfl, rfl, Or.inr ⟨3, by decide +kernel, rfl, rfl⟩⟩
  · rename_i e0
    split at hb
    · next e =>
      subst e
      obtain rfl := Option.some.inj hb
      exact ⟨Or.inr (Or.inr rfl), 11, 1, _, rfl, rfl, rfl, Or.inr ⟨3, by decide +kernel, rfl, rfl⟩⟩
    · exact nomatch hb
def E_set : List Value → xH → (Option Value → xH → Prop) → Prop := fun as h Q => (xfl as).length ≤ 4 ∧ EvW 20 b_W_set hb_set N_B_set 2 3 4 1 6 false as h Q
theorem wb_set : okAll yL_set cL_set b_W_set (fun b => b == 1) = true := by decide +kernel
set_option maxRecDepth 100000 in
theorem kn_set (hT : ∀ i q, xT[i]? = some q → okM xT xKT xHT i q = true) {l : Launch} (hfl : l.stackTraces = false) {sc : Option (List Int32)} : yKn l sc 21 1 6 false yL_set cL_set 4 (some .int) (.codeWith yL_set cL_set 4 (some .int) hh_set) E_set := by
  refine ⟨Or.inr ⟨hh_set, rfl⟩, ?_⟩
  rintro as h Q ⟨hlen, hev⟩ D cy ad sz
  refine x_met (w_met (q := m_B_set) (idx := 27) (pcC := 3) (hk := [10, 11]) hT hfl (x_sound hT hfl 20) rfl rfl (by decide +kernel) ⟨_, rfl, rfl⟩ rfl rfl (fun b B hb h1 => okAll_of wb_set hb (beq_eq_false_iff_ne.mpr h1)) (by decide +kernel) (xat_e (i := 397) (by decide +kernel)) rfl rfl (by decide +kernel) (by decide) (by decide) ?_ hlen hev D cy ad sz) (by rintro E st t ⟨⟨k, h, ad, -, hx, -⟩, -⟩; exact hx)
  intro k b hb
  unfold hb_set at hb
  split at hb
  · next e =>
    subst e
    obtain rfl := Option.some.inj hb
    exact ⟨Or.inl rfl, 7, 1, _, rfl, rfl, rfl, Or.inr ⟨3, by decide +kernel, rfl, rfl⟩⟩
  · rename_i e0
    split at hb
    · next e =>
      subst e
      obtain rfl := Option.some.inj hb
      exact ⟨Or.inr (Or.inl rfl), 11, 1, _, rfl, rfl, rfl, Or.inr ⟨3, by decide +kernel, rfl, rfl⟩⟩
    · exact nomatch hb
def E_turn : List Value → xH → (Option Value → xH → Prop) → Prop := fun as h Q => (xfl as).length ≤ 3 ∧ EvW 20 b_W_turn hb_turn N_B_turn 1 2 3 1 6 false as h Q
theorem wb_turn : okAll yL_turn cL_turn b_W_turn (fun b => b == 1) = true := by decide +kernel
set_option maxRecDepth 100000 in
theorem kn_turn (hT : ∀ i q, xT[i]? = some q → okM xT xKT xHT i q = true) {l : Launch} (hfl : l.stackTraces = false) {sc : Option (List Int32)} : yKn l sc 21 1 6 false yL_turn cL_turn 3 (some .int) (.codeWith yL_turn cL_turn 3 (some .int) hh_turn) E_turn := by
  refine ⟨Or.inr ⟨hh_turn, rfl⟩, ?_⟩
  rintro as h Q ⟨hlen, hev⟩ D cy ad sz
  refine x_met (w_met (q := m_B_turn) (idx := 30) (pcC := 2) (hk := [11]) hT hfl (x_sound hT hfl 20) rfl rfl (by decide +kernel) ⟨_, rfl, rfl⟩ rfl rfl (fun b B hb h1 => okAll_of wb_turn hb (beq_eq_false_iff_ne.mpr h1)) (by decide +kernel) (xat_e (i := 409) (by decide +kernel)) rfl rfl (by decide +kernel) (by decide) (by decide) ?_ hlen hev D cy ad sz) (by rintro E st t ⟨⟨k, h, ad, -, hx, -⟩, -⟩; exact hx)
  intro k b hb
  unfold hb_turn at hb
  split at hb
  · next e =>
    subst e
    obtain rfl := Option.some.inj hb
    exact ⟨Or.inr (Or.inl rfl), 6, 1, _, rfl, rfl, rfl, Or.inr ⟨2, by decide +kernel, rfl, rfl⟩⟩
  · exact nomatch hb
def E_goBack : List Value → xH → (Option Value → xH → Prop) → Prop := fun as h Q => (xfl as).length ≤ 2 ∧ EvW 20 b_W_goBack hb_goBack N_B_goBack 0 1 2 1 6 false as h Q
theorem wb_goBack : okAll yL_goBack cL_goBack b_W_goBack (fun b => b == 1) = true := by decide +kernel
set_option maxRecDepth 100000 in
theorem kn_goBack (hT : ∀ i q, xT[i]? = some q → okM xT xKT xHT i q = true) {l : Launch} (hfl : l.stackTraces = false) {sc : Option (List Int32)} : yKn l sc 21 1 6 false yL_goBack cL_goBack 2 (some .int) (.codeWith yL_goBack cL_goBack 2 (some .int) hh_goBack) E_goBack := by
  refine ⟨Or.inr ⟨hh_goBack, rfl⟩, ?_⟩
  rintro as h Q ⟨hlen, hev⟩ D cy ad sz
  refine x_met (w_met (q := m_B_goBack) (idx := 34) (pcC := 1) (hk := [12]) hT hfl (x_sound hT hfl 20) rfl rfl (by decide +kernel) ⟨_, rfl, rfl⟩ rfl rfl (fun b B hb h1 => okAll_of wb_goBack hb (beq_eq_false_iff_ne.mpr h1)) (by decide +kernel) (xat_e (i := 417) (by decide +kernel)) rfl rfl (by decide +kernel) (by decide) (by decide) ?_ hlen hev D cy ad sz) (by rintro E st t ⟨⟨k, h, ad, -, hx, -⟩, -⟩; exact hx)
  intro k b hb
  unfold hb_goBack at hb
  split at hb
  · next e =>
    subst e
    obtain rfl := Option.some.inj hb
    exact ⟨Or.inr (Or.inr rfl), 5, 1, _, rfl, rfl, rfl, Or.inr ⟨1, by decide +kernel, rfl, rfl⟩⟩
  · exact nomatch hb
def E_undo : List Value → xH → (Option Value → xH → Prop) → Prop := fun as h Q => (xfl as).length ≤ 2 ∧ EvW 20 b_W_undo hb_undo N_B_undo 0 1 2 1 6 false as h Q
theorem wb_undo : okAll yL_undo cL_undo b_W_undo (fun b => b == 1) = true := by decide +kernel
set_option maxRecDepth 100000 in
theorem kn_undo (hT : ∀ i q, xT[i]? = some q → okM xT xKT xHT i q = true) {l : Launch} (hfl : l.stackTraces = false) {sc : Option (List Int32)} : yKn l sc 21 1 6 false yL_undo cL_undo 2 (some .int) (.codeWith yL_undo cL_undo 2 (some .int) hh_undo) E_undo := by
  refine ⟨Or.inr ⟨hh_undo, rfl⟩, ?_⟩
  rintro as h Q ⟨hlen, hev⟩ D cy ad sz
  refine x_met (w_met (q := m_B_undo) (idx := 38) (pcC := 1) (hk := [12]) hT hfl (x_sound hT hfl 20) rfl rfl (by decide +kernel) ⟨_, rfl, rfl⟩ rfl rfl (fun b B hb h1 => okAll_of wb_undo hb (beq_eq_false_iff_ne.mpr h1)) (by decide +kernel) (xat_e (i := 425) (by decide +kernel)) rfl rfl (by decide +kernel) (by decide) (by decide) ?_ hlen hev D cy ad sz) (by rintro E st t ⟨⟨k, h, ad, -, hx, -⟩, -⟩; exact hx)
  intro k b hb
  unfold hb_undo at hb
  split at hb
  · next e =>
    subst e
    obtain rfl := Option.some.inj hb
    exact ⟨Or.inr (Or.inr rfl), 5, 1, _, rfl, rfl, rfl, Or.inr ⟨1, by decide +kernel, rfl, rfl⟩⟩
  · exact nomatch hb
theorem lk_act_2 : yLk cL_act b_act 2 3 41 yL_take 4 (.codeWith yL_take cL_take 4 (some .int) hh_take) := ⟨xat_e (i := 300) (by decide +kernel), xat_e (i := 299) (by decide +kernel), xat_e (i := 298) (by decide +kernel), xat_e (i := 26) (by decide +kernel), rfl, by decide +kernel, by decide, 43, rfl, by decide +kernel, _, _, rfl⟩
theorem lk_act_5 : yLk cL_act b_act 5 3 46 yL_knock 4 (.codeWith yL_knock cL_knock 4 (some .int) hh_knock) := ⟨xat_e (i := 357) (by decide +kernel), xat_e (i := 356) (by decide +kernel), xat_e (i := 355) (by decide +kernel), xat_e (i := 26) (by decide +kernel), rfl, by decide +kernel, by decide, 50, rfl, by decide +kernel, _, _, rfl⟩
theorem lk_act_8 : yLk cL_act b_act 8 3 48 yL_put 4 (.codeWith yL_put cL_put 4 (some .int) hh_put) := ⟨xat_e (i := 380) (by decide +kernel), xat_e (i := 379) (by decide +kernel), xat_e (i := 378) (by decide +kernel), xat_e (i := 26) (by decide +kernel), rfl, by decide +kernel, by decide, 57, rfl, by decide +kernel, _, _, rfl⟩
theorem lk_act_11 : yLk cL_act b_act 11 3 50 yL_set 4 (.codeWith yL_set cL_set 4 (some .int) hh_set) := ⟨xat_e (i := 396) (by decide +kernel), xat_e (i := 395) (by decide +kernel), xat_e (i := 394) (by decide +kernel), xat_e (i := 26) (by decide +kernel), rfl, by decide +kernel, by decide, 64, rfl, by decide +kernel, _, _, rfl⟩
theorem lk_act_14 : yLk cL_act b_act 14 2 52 yL_turn 3 (.codeWith yL_turn cL_turn 3 (some .int) hh_turn) := ⟨xat_e (i := 408) (by decide +kernel), xat_e (i := 407) (by decide +kernel), xat_e (i := 406) (by decide +kernel), xat_e (i := 26) (by decide +kernel), rfl, by decide +kernel, by decide, 70, rfl, by decide +kernel, _, _, rfl⟩
theorem lk_act_17 : yLk cL_act b_act 17 1 55 yL_goBack 2 (.codeWith yL_goBack cL_goBack 2 (some .int) hh_goBack) := ⟨xat_e (i := 416) (by decide +kernel), xat_e (i := 415) (by decide +kernel), xat_e (i := 414) (by decide +kernel), xat_e (i := 26) (by decide +kernel), rfl, by decide +kernel, by decide, 75, rfl, by decide +kernel, _, _, rfl⟩
theorem lk_act_20 : yLk cL_act b_act 20 1 58 yL_undo 2 (.codeWith yL_undo cL_undo 2 (some .int) hh_undo) := ⟨xat_e (i := 424) (by decide +kernel), xat_e (i := 423) (by decide +kernel), xat_e (i := 422) (by decide +kernel), xat_e (i := 26) (by decide +kernel), rfl, by decide +kernel, by decide, 80, rfl, by decide +kernel, _, _, rfl⟩
def cR_act : List cRec := [(2, 3, 1, 6, false, E_take), (5, 3, 1, 6, false, E_knock), (8, 3, 1, 6, false, E_put), (11, 3, 1, 6, false, E_set), (14, 2, 1, 6, false, E_turn), (17, 1, 1, 6, false, E_goBack), (20, 1, 1, 6, false, E_undo)]
def E_act (sc : Option (List Int32)) : List Value → xH → (Option Value → xH → Prop) → Prop := fun as h Q => (xfl as).length ≤ 4 ∧ EvY sc b_act ps_act cR_act (some .int) 4 1 6 false as h Q
theorem yb_act : okAll yL_act cL_act b_act ps_act = true := by decide +kernel
set_option maxRecDepth 100000 in
theorem kn_act (hT : ∀ i q, xT[i]? = some q → okM xT xKT xHT i q = true) {l : Launch} (hfl : l.stackTraces = false) (sc : Option (List Int32)) : yKn l sc 22 1 6 false yL_act cL_act 4 (some .int) (.code yL_act cL_act 4 (some .int)) (E_act sc) := by
  refine y_met hT hfl rfl (by decide +kernel) (by decide) ⟨_, rfl, rfl⟩ (fun b B hb hp => okAll_of yb_act hb hp) ?_
  intro r hr
  simp only [cR_act, List.mem_cons, List.not_mem_nil, or_false] at hr
  rcases hr with rfl | rfl | rfl | rfl | rfl | rfl | rfl
  · exact ⟨_, _, _, _, _, 21, _, by decide, lk_act_2, kn_take hT hfl⟩
  · exact ⟨_, _, _, _, _, 21, _, by decide, lk_act_5, kn_knock hT hfl⟩
  · exact ⟨_, _, _, _, _, 21, _, by decide, lk_act_8, kn_put hT hfl⟩
  · exact ⟨_, _, _, _, _, 21, _, by decide, lk_act_11, kn_set hT hfl⟩
  · exact ⟨_, _, _, _, _, 21, _, by decide, lk_act_14, kn_turn hT hfl⟩
  · exact ⟨_, _, _, _, _, 21, _, by decide, lk_act_17, kn_goBack hT hfl⟩
  · exact ⟨_, _, _, _, _, 21, _, by decide, lk_act_20, kn_undo hT hfl⟩
def cR_cell : List cRec := []
def E_cell (sc : Option (List Int32)) : List Value → xH → (Option Value → xH → Prop) → Prop := fun as h Q => (xfl as).length ≤ 2 ∧ EvY sc b_cell ps_cell cR_cell (some .int) 2 0 0 false as h Q
theorem yb_cell : okAll yL_cell cL_cell b_cell ps_cell = true := by decide +kernel
set_option maxRecDepth 100000 in
theorem kn_cell (hT : ∀ i q, xT[i]? = some q → okM xT xKT xHT i q = true) {l : Launch} (hfl : l.stackTraces = false) (sc : Option (List Int32)) : yKn l sc 21 0 0 false yL_cell cL_cell 2 (some .int) (.code yL_cell cL_cell 2 (some .int)) (E_cell sc) := by
  refine y_met hT hfl rfl (by decide +kernel) (by decide) ⟨_, rfl, rfl⟩ (fun b B hb hp => okAll_of yb_cell hb hp) ?_
  intro r hr
  simp only [cR_cell, List.mem_cons, List.not_mem_nil, or_false] at hr
theorem lk_takes_1 : yLk cL_takes b_takes 1 4 94 yL_act 4 (.code yL_act cL_act 4 (some .int)) := ⟨xat_e (i := 297) (by decide +kernel), xat_e (i := 296) (by decide +kernel), xat_e (i := 295) (by decide +kernel), xat_e (i := 26) (by decide +kernel), rfl, by decide +kernel, by decide, 76, rfl, by decide +kernel, _, _, rfl⟩
def cR_takes (sc : Option (List Int32)) : List cRec := [(1, 4, 1, 6, false, (E_act sc))]
def E_takes (sc : Option (List Int32)) : List Value → xH → (Option Value → xH → Prop) → Prop := fun as h Q => (xfl as).length ≤ 15 ∧ EvY sc b_takes ps_takes (cR_takes sc) (some .boolean) 15 60 9000 true as h Q
theorem yb_takes : okAll yL_takes cL_takes b_takes ps_takes = true := by decide +kernel
set_option maxRecDepth 100000 in
theorem kn_takes (hT : ∀ i q, xT[i]? = some q → okM xT xKT xHT i q = true) {l : Launch} (hfl : l.stackTraces = false) (sc : Option (List Int32)) : yKn l sc 23 60 9000 true yL_takes cL_takes 15 (some .boolean) (.code yL_takes cL_takes 15 (some .boolean)) (E_takes sc) := by
  refine y_met hT hfl rfl (by decide +kernel) (by decide) ⟨_, rfl, rfl⟩ (fun b B hb hp => okAll_of yb_takes hb hp) ?_
  intro r hr
  simp only [cR_takes, List.mem_cons, List.not_mem_nil, or_false] at hr
  subst hr
  exact ⟨_, _, _, _, _, 22, _, by decide, lk_takes_1, kn_act hT hfl sc⟩
theorem lk_acts_4 : yLk cL_acts b_acts 4 4 94 yL_act 4 (.code yL_act cL_act 4 (some .int)) := ⟨xat_e (i := 297) (by decide +kernel), xat_e (i := 296) (by decide +kernel), xat_e (i := 295) (by decide +kernel), xat_e (i := 26) (by decide +kernel), rfl, by decide +kernel, by decide, 88, rfl, by decide +kernel, _, _, rfl⟩
theorem lk_acts_14 : yLk cL_acts b_acts 14 4 94 yL_act 4 (.code yL_act cL_act 4 (some .int)) := ⟨xat_e (i := 297) (by decide +kernel), xat_e (i := 296) (by decide +kernel), xat_e (i := 295) (by decide +kernel), xat_e (i := 26) (by decide +kernel), rfl, by decide +kernel, by decide, 181, rfl, by decide +kernel, _, _, rfl⟩
theorem lk_acts_30 : yLk cL_acts b_acts 30 4 94 yL_act 4 (.code yL_act cL_act 4 (some .int)) := ⟨xat_e (i := 297) (by decide +kernel), xat_e (i := 296) (by decide +kernel), xat_e (i := 295) (by decide +kernel), xat_e (i := 26) (by decide +kernel), rfl, by decide +kernel, by decide, 409, rfl, by decide +kernel, _, _, rfl⟩
theorem lk_acts_35 : yLk cL_acts b_acts 35 3 104 yL_takes 15 (.code yL_takes cL_takes 15 (some .boolean)) := ⟨xat_e (i := 516) (by decide +kernel), xat_e (i := 515) (by decide +kernel), xat_e (i := 514) (by decide +kernel), xat_e (i := 26) (by decide +kernel), rfl, by decide +kernel, by decide, 444, rfl, by decide +kernel, _, _, rfl⟩
def cR_acts (sc : Option (List Int32)) : List cRec := [(4, 4, 1, 6, false, (E_act sc)), (14, 4, 1, 6, false, (E_act sc)), (30, 4, 1, 6, false, (E_act sc)), (35, 3, 60, 9000, true, (E_takes sc))]
def E_acts (sc : Option (List Int32)) : List Value → xH → (Option Value → xH → Prop) → Prop := fun as h Q => (xfl as).length ≤ 16 ∧ EvY sc b_acts ps_acts (cR_acts sc) (some .boolean) 16 120 12000 true as h Q
theorem yb_acts : okAll yL_acts cL_acts b_acts ps_acts = true := by decide +kernel
set_option maxRecDepth 100000 in
theorem kn_acts (hT : ∀ i q, xT[i]? = some q → okM xT xKT xHT i q = true) {l : Launch} (hfl : l.stackTraces = false) (sc : Option (List Int32)) : yKn l sc 24 120 12000 true yL_acts cL_acts 16 (some .boolean) (.code yL_acts cL_acts 16 (some .boolean)) (E_acts sc) := by
  refine y_met hT hfl rfl (by decide +kernel) (by decide) ⟨_, rfl, rfl⟩ (fun b B hb hp => okAll_of yb_acts hb hp) ?_
  intro r hr
  simp only [cR_acts, List.mem_cons, List.not_mem_nil, or_false] at hr
  rcases hr with rfl | rfl | rfl | rfl
  · exact ⟨_, _, _, _, _, 22, _, by decide, lk_acts_4, kn_act hT hfl sc⟩
  · exact ⟨_, _, _, _, _, 22, _, by decide, lk_acts_14, kn_act hT hfl sc⟩
  · exact ⟨_, _, _, _, _, 22, _, by decide, lk_acts_30, kn_act hT hfl sc⟩
  · exact ⟨_, _, _, _, _, 23, _, by decide, lk_acts_35, kn_takes hT hfl sc⟩
theorem lk_law_1 : yLk code b_law 1 4 94 yL_act 4 (.code yL_act cL_act 4 (some .int)) := ⟨xat_e (i := 297) (by decide +kernel), xat_e (i := 296) (by decide +kernel), xat_e (i := 295) (by decide +kernel), xat_e (i := 26) (by decide +kernel), rfl, by decide +kernel, by decide, 23, rfl, by decide +kernel, _, _, rfl⟩
theorem lk_law_3 : yLk code b_law 3 4 94 yL_act 4 (.code yL_act cL_act 4 (some .int)) := ⟨xat_e (i := 297) (by decide +kernel), xat_e (i := 296) (by decide +kernel), xat_e (i := 295) (by decide +kernel), xat_e (i := 26) (by decide +kernel), rfl, by decide +kernel, by decide, 36, rfl, by decide +kernel, _, _, rfl⟩
theorem lk_law_8 : yLk code b_law 8 2 112 yL_cell 2 (.code yL_cell cL_cell 2 (some .int)) := ⟨xat_e (i := 292) (by decide +kernel), xat_e (i := 291) (by decide +kernel), xat_e (i := 290) (by decide +kernel), xat_e (i := 26) (by decide +kernel), rfl, by decide +kernel, by decide, 85, rfl, by decide +kernel, _, _, rfl⟩
theorem lk_law_9 : yLk code b_law 9 2 116 yL_acts 16 (.code yL_acts cL_acts 16 (some .boolean)) := ⟨xat_e (i := 502) (by decide +kernel), xat_e (i := 501) (by decide +kernel), xat_e (i := 500) (by decide +kernel), xat_e (i := 26) (by decide +kernel), rfl, by decide +kernel, by decide, 88, rfl, by decide +kernel, _, _, rfl⟩
theorem lk_law_17 : yLk code b_law 17 4 94 yL_act 4 (.code yL_act cL_act 4 (some .int)) := ⟨xat_e (i := 297) (by decide +kernel), xat_e (i := 296) (by decide +kernel), xat_e (i := 295) (by decide +kernel), xat_e (i := 26) (by decide +kernel), rfl, by decide +kernel, by decide, 236, rfl, by decide +kernel, _, _, rfl⟩
theorem lk_law_19 : yLk code b_law 19 4 94 yL_act 4 (.code yL_act cL_act 4 (some .int)) := ⟨xat_e (i := 297) (by decide +kernel), xat_e (i := 296) (by decide +kernel), xat_e (i := 295) (by decide +kernel), xat_e (i := 26) (by decide +kernel), rfl, by decide +kernel, by decide, 246, rfl, by decide +kernel, _, _, rfl⟩
theorem lk_law_23 : yLk code b_law 23 4 94 yL_act 4 (.code yL_act cL_act 4 (some .int)) := ⟨xat_e (i := 297) (by decide +kernel), xat_e (i := 296) (by decide +kernel), xat_e (i := 295) (by decide +kernel), xat_e (i := 26) (by decide +kernel), rfl, by decide +kernel, by decide, 278, rfl, by decide +kernel, _, _, rfl⟩
def cR_law (sc : Option (List Int32)) : List cRec := [(1, 4, 1, 6, false, (E_act sc)), (3, 4, 1, 6, false, (E_act sc)), (8, 2, 0, 0, false, (E_cell sc)), (9, 2, 120, 12000, true, (E_acts sc)), (17, 4, 1, 6, false, (E_act sc)), (19, 4, 1, 6, false, (E_act sc)), (23, 4, 1, 6, false, (E_act sc))]
set_option maxRecDepth 100000 in
theorem cal_law (hT : ∀ i q, xT[i]? = some q → okM xT xKT xHT i q = true) {l : Launch} (hfl : l.stackTraces = false) (sc : Option (List Int32)) : ∀ r ∈ cR_law sc, yCal l sc 25 code b_law r := by
  intro r hr
  simp only [cR_law, List.mem_cons, List.not_mem_nil, or_false] at hr
  rcases hr with rfl | rfl | rfl | rfl | rfl | rfl | rfl
  · exact ⟨_, _, _, _, _, 22, _, by decide, lk_law_1, kn_act hT hfl sc⟩
  · exact ⟨_, _, _, _, _, 22, _, by decide, lk_law_3, kn_act hT hfl sc⟩
  · exact ⟨_, _, _, _, _, 21, _, by decide, lk_law_8, kn_cell hT hfl sc⟩
  · exact ⟨_, _, _, _, _, 24, _, by decide, lk_law_9, kn_acts hT hfl sc⟩
  · exact ⟨_, _, _, _, _, 22, _, by decide, lk_law_17, kn_act hT hfl sc⟩
  · exact ⟨_, _, _, _, _, 22, _, by decide, lk_law_19, kn_act hT hfl sc⟩
  · exact ⟨_, _, _, _, _, 22, _, by decide, lk_law_23, kn_act hT hfl sc⟩
