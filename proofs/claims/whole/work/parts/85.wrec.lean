/-! ===== the wrappers agree with the tables ===== -/
/-- a wrapper: its block in the law, its blocks, handlers' blocks, (class method, its arguments, the exception's local, locals), budget, (name, code), (handlers, codes), (link, arguments, the call's place, the call's link) -/
abbrev wRec : Type := Nat × List xB × (Nat → Option Nat) × (Nat × Nat × Nat × Nat) × (Nat × Nat × Bool) × (MethodName × ByteArray) × (List (Nat × Nat × Nat × Nat) × List Nat) × (Nat × Nat × Nat × Nat)
def okAll (y : MethodName) (cc : ByteArray) (bl : List xB) (sk : Nat → Bool) : Bool := (List.range bl.length).all fun b => sk b || (match bl[b]? with
  | some B => okEs xT xKT y cc bl B.2.2 B.1 B.2.1
  | none => false)
theorem okAll_of {y : MethodName} {cc : ByteArray} {bl : List xB} {sk : Nat → Bool} (h : okAll y cc bl sk = true) {b : Nat} {B : xB} (hb : bl[b]? = some B) (hs : sk b = false) : okEs xT xKT y cc bl B.2.2 B.1 B.2.1 = true := by
  have hl : b < bl.length := (List.getElem?_eq_some_iff.mp hb).1
  have q := List.all_eq_true.mp h b (List.mem_range.mpr hl)
  rw [hs, hb] at q
  exact q
def wrOk : wRec → Prop
  | (b, bl, hbk, (M, np, iA, nL), (mc, ms, al), (y, cc), (hh, hk), (idx, n, pcC, idxC)) =>
    ∃ (q : xM) (es2 : List xE) (nx2 pc : Nat), xT[M]? = some q ∧ (q.2.2.2.2.1 = mc ∧ q.2.2.2.2.2.1 = ms ∧ q.2.2.2.2.2.2.1 = al) ∧ y.cls = RL ∧ (∃ B, bl[0]? = some B ∧ B.1 = 0) ∧ bl[1]? = some (pcC, [], 1) ∧ bl[2]? = some (pcC + 3, es2, nx2) ∧
      (∀ b B, bl[b]? = some B → b ≠ 1 → okEs xT xKT y cc bl B.2.2 B.1 B.2.1 = true) ∧ decode cc pcC = .ok (.invokevirtual idxC, 3) ∧ Cond.methodLink RL idxC q.1 ∈ xTB ∧ xKT[M]? = some (1, np) ∧ q.1.cls = RX3 ∧ wOk pcC hh hk = true ∧ iA < nL ∧
      (∀ k b, hbk k = some b → (k = 10 ∨ k = 11 ∨ k = 12) ∧ ∃ hp len B, wLook k hh hk = some hp ∧ bl[b]? = some B ∧ B.1 = hp + len ∧ ((decode cc hp = .ok (.astore iA, 2) ∧ len = 2) ∨ (∃ k : Fin 4, decode cc hp = .ok (.astore_n k, 1) ∧ (k : Nat) = iA ∧ len = 1))) ∧
      Cond.codeWith y cc nL (some .int) hh ∈ xTB ∧ Cond.static y ∈ xTB ∧ Cond.methodLink RL idx y ∈ xTB ∧ okN y n = true ∧ nL ≤ 40 ∧ b_law[b]? = some (pc, [], b) ∧ decode code pc = .ok (.invokestatic idx, 3) ∧ ∃ es nx, b_law[b + 1]? = some (pc + 3, es, nx)
def r_take : wRec := (3, b_W_take, hb_take, (30, 2, 4, 5), (1, 6, false), (yL_take, cL_take), (hh_take, [10, 11, 12]), (73, 4, 5, 7))
theorem wb_take : okAll yL_take cL_take b_W_take (fun b => b == 1) = true := by decide +kernel
set_option maxRecDepth 100000 in
theorem wr_take : wrOk r_take := by
  refine ⟨m_B_take, _, _, 170, rfl, ⟨rfl, rfl, rfl⟩, rfl, ⟨_, rfl, rfl⟩, rfl, rfl, fun b B hb h1 => okAll_of wb_take hb (beq_eq_false_iff_ne.mpr h1), by decide +kernel, xat_e (i := 461) (by decide +kernel), rfl, rfl, by decide +kernel, by decide, ?_, xat_e (i := 457) (by decide +kernel), xat_e (i := 456) (by decide +kernel), xat_e (i := 455) (by decide +kernel), by decide +kernel, by decide, rfl, by decide +kernel, _, _, rfl⟩
  intro k b hb
  unfold hb_take at hb
  split at hb
  · next e =>
    subst e
    obtain rfl := Option.some.inj hb
    exact ⟨Or.inl rfl, 13, 2, _, rfl, rfl, rfl, Or.inl ⟨by decide +kernel, rfl⟩⟩
  · rename_i e0
    split at hb
    · next e =>
      subst e
      obtain rfl := Option.some.inj hb
      exact ⟨Or.inr (Or.inl rfl), 17, 2, _, rfl, rfl, rfl, Or.inl ⟨by decide +kernel, rfl⟩⟩
    · rename_i e1
      split at hb
      · next e =>
        subst e
        obtain rfl := Option.some.inj hb
        exact ⟨Or.inr (Or.inr rfl), 21, 2, _, rfl, rfl, rfl, Or.inl ⟨by decide +kernel, rfl⟩⟩
      · exact nomatch hb
def r_turn : wRec := (8, b_W_turn, hb_turn, (31, 1, 3, 4), (1, 6, false), (yL_turn, cL_turn), (hh_turn, [11]), (82, 3, 4, 19))
theorem wb_turn : okAll yL_turn cL_turn b_W_turn (fun b => b == 1) = true := by decide +kernel
set_option maxRecDepth 100000 in
theorem wr_turn : wrOk r_turn := by
  refine ⟨m_B_turn, _, _, 232, rfl, ⟨rfl, rfl, rfl⟩, rfl, ⟨_, rfl, rfl⟩, rfl, rfl, fun b B hb h1 => okAll_of wb_turn hb (beq_eq_false_iff_ne.mpr h1), by decide +kernel, xat_e (i := 492) (by decide +kernel), rfl, rfl, by decide +kernel, by decide, ?_, xat_e (i := 491) (by decide +kernel), xat_e (i := 490) (by decide +kernel), xat_e (i := 489) (by decide +kernel), by decide +kernel, by decide, rfl, by decide +kernel, _, _, rfl⟩
  intro k b hb
  unfold hb_turn at hb
  split at hb
  · next e =>
    subst e
    obtain rfl := Option.some.inj hb
    exact ⟨Or.inr (Or.inl rfl), 12, 1, _, rfl, rfl, rfl, Or.inr ⟨3, by decide +kernel, rfl, rfl⟩⟩
  · exact nomatch hb
def r_knock : wRec := (13, b_W_knock, hb_knock, (32, 2, 4, 5), (1, 6, false), (yL_knock, cL_knock), (hh_knock, [10, 12]), (86, 4, 5, 23))
theorem wb_knock : okAll yL_knock cL_knock b_W_knock (fun b => b == 1) = true := by decide +kernel
set_option maxRecDepth 100000 in
theorem wr_knock : wrOk r_knock := by
  refine ⟨m_B_knock, _, _, 294, rfl, ⟨rfl, rfl, rfl⟩, rfl, ⟨_, rfl, rfl⟩, rfl, rfl, fun b B hb h1 => okAll_of wb_knock hb (beq_eq_false_iff_ne.mpr h1), by decide +kernel, xat_e (i := 499) (by decide +kernel), rfl, rfl, by decide +kernel, by decide, ?_, xat_e (i := 498) (by decide +kernel), xat_e (i := 497) (by decide +kernel), xat_e (i := 496) (by decide +kernel), by decide +kernel, by decide, rfl, by decide +kernel, _, _, rfl⟩
  intro k b hb
  unfold hb_knock at hb
  split at hb
  · next e =>
    subst e
    obtain rfl := Option.some.inj hb
    exact ⟨Or.inl rfl, 13, 2, _, rfl, rfl, rfl, Or.inl ⟨by decide +kernel, rfl⟩⟩
  · rename_i e0
    split at hb
    · next e =>
      subst e
      obtain rfl := Option.some.inj hb
      exact ⟨Or.inr (Or.inr rfl), 17, 2, _, rfl, rfl, rfl, Or.inl ⟨by decide +kernel, rfl⟩⟩
    · exact nomatch hb
def r_put : wRec := (18, b_W_put, hb_put, (33, 2, 4, 5), (1, 6, false), (yL_put, cL_put), (hh_put, [10, 12]), (89, 4, 5, 26))
theorem wb_put : okAll yL_put cL_put b_W_put (fun b => b == 1) = true := by decide +kernel
set_option maxRecDepth 100000 in
theorem wr_put : wrOk r_put := by
  refine ⟨m_B_put, _, _, 362, rfl, ⟨rfl, rfl, rfl⟩, rfl, ⟨_, rfl, rfl⟩, rfl, rfl, fun b B hb h1 => okAll_of wb_put hb (beq_eq_false_iff_ne.mpr h1), by decide +kernel, xat_e (i := 516) (by decide +kernel), rfl, rfl, by decide +kernel, by decide, ?_, xat_e (i := 515) (by decide +kernel), xat_e (i := 514) (by decide +kernel), xat_e (i := 513) (by decide +kernel), by decide +kernel, by decide, rfl, by decide +kernel, _, _, rfl⟩
  intro k b hb
  unfold hb_put at hb
  split at hb
  · next e =>
    subst e
    obtain rfl := Option.some.inj hb
    exact ⟨Or.inl rfl, 13, 2, _, rfl, rfl, rfl, Or.inl ⟨by decide +kernel, rfl⟩⟩
  · rename_i e0
    split at hb
    · next e =>
      subst e
      obtain rfl := Option.some.inj hb
      exact ⟨Or.inr (Or.inr rfl), 17, 2, _, rfl, rfl, rfl, Or.inl ⟨by decide +kernel, rfl⟩⟩
    · exact nomatch hb
def r_set : wRec := (25, b_W_set, hb_set, (36, 2, 4, 5), (1, 6, false), (yL_set, cL_set), (hh_set, [10, 11]), (100, 4, 5, 29))
theorem wb_set : okAll yL_set cL_set b_W_set (fun b => b == 1) = true := by decide +kernel
set_option maxRecDepth 100000 in
theorem wr_set : wrOk r_set := by
  refine ⟨m_B_set, _, _, 456, rfl, ⟨rfl, rfl, rfl⟩, rfl, ⟨_, rfl, rfl⟩, rfl, rfl, fun b B hb h1 => okAll_of wb_set hb (beq_eq_false_iff_ne.mpr h1), by decide +kernel, xat_e (i := 531) (by decide +kernel), rfl, rfl, by decide +kernel, by decide, ?_, xat_e (i := 530) (by decide +kernel), xat_e (i := 529) (by decide +kernel), xat_e (i := 528) (by decide +kernel), by decide +kernel, by decide, rfl, by decide +kernel, _, _, rfl⟩
  intro k b hb
  unfold hb_set at hb
  split at hb
  · next e =>
    subst e
    obtain rfl := Option.some.inj hb
    exact ⟨Or.inl rfl, 13, 2, _, rfl, rfl, rfl, Or.inl ⟨by decide +kernel, rfl⟩⟩
  · rename_i e0
    split at hb
    · next e =>
      subst e
      obtain rfl := Option.some.inj hb
      exact ⟨Or.inr (Or.inl rfl), 17, 2, _, rfl, rfl, rfl, Or.inl ⟨by decide +kernel, rfl⟩⟩
    · exact nomatch hb
def r_append : wRec := (30, b_W_append, hb_append, (37, 1, 3, 4), (1, 6, false), (yL_append, cL_append), (hh_append, [11, 12]), (103, 3, 4, 32))
theorem wb_append : okAll yL_append cL_append b_W_append (fun b => b == 1) = true := by decide +kernel
set_option maxRecDepth 100000 in
theorem wr_append : wrOk r_append := by
  refine ⟨m_B_append, _, _, 518, rfl, ⟨rfl, rfl, rfl⟩, rfl, ⟨_, rfl, rfl⟩, rfl, rfl, fun b B hb h1 => okAll_of wb_append hb (beq_eq_false_iff_ne.mpr h1), by decide +kernel, xat_e (i := 543) (by decide +kernel), rfl, rfl, by decide +kernel, by decide, ?_, xat_e (i := 542) (by decide +kernel), xat_e (i := 541) (by decide +kernel), xat_e (i := 540) (by decide +kernel), by decide +kernel, by decide, rfl, by decide +kernel, _, _, rfl⟩
  intro k b hb
  unfold hb_append at hb
  split at hb
  · next e =>
    subst e
    obtain rfl := Option.some.inj hb
    exact ⟨Or.inr (Or.inl rfl), 12, 1, _, rfl, rfl, rfl, Or.inr ⟨3, by decide +kernel, rfl, rfl⟩⟩
  · rename_i e0
    split at hb
    · next e =>
      subst e
      obtain rfl := Option.some.inj hb
      exact ⟨Or.inr (Or.inr rfl), 15, 1, _, rfl, rfl, rfl, Or.inr ⟨3, by decide +kernel, rfl, rfl⟩⟩
    · exact nomatch hb
def r_obey : wRec := (37, b_W_obey, hb_obey, (40, 0, 2, 3), (1, 6, false), (yL_obey, cL_obey), (hh_obey, [11]), (114, 2, 3, 35))
theorem wb_obey : okAll yL_obey cL_obey b_W_obey (fun b => b == 1) = true := by decide +kernel
set_option maxRecDepth 100000 in
theorem wr_obey : wrOk r_obey := by
  refine ⟨m_B_obey, _, _, 594, rfl, ⟨rfl, rfl, rfl⟩, rfl, ⟨_, rfl, rfl⟩, rfl, rfl, fun b B hb h1 => okAll_of wb_obey hb (beq_eq_false_iff_ne.mpr h1), by decide +kernel, xat_e (i := 552) (by decide +kernel), rfl, rfl, by decide +kernel, by decide, ?_, xat_e (i := 551) (by decide +kernel), xat_e (i := 550) (by decide +kernel), xat_e (i := 549) (by decide +kernel), by decide +kernel, by decide, rfl, by decide +kernel, _, _, rfl⟩
  intro k b hb
  unfold hb_obey at hb
  split at hb
  · next e =>
    subst e
    obtain rfl := Option.some.inj hb
    exact ⟨Or.inr (Or.inl rfl), 11, 1, _, rfl, rfl, rfl, Or.inr ⟨2, by decide +kernel, rfl, rfl⟩⟩
  · exact nomatch hb
def r_goBack : wRec := (43, b_W_goBack, hb_goBack, (42, 0, 2, 3), (1, 6, false), (yL_goBack, cL_goBack), (hh_goBack, [12]), (122, 2, 3, 39))
theorem wb_goBack : okAll yL_goBack cL_goBack b_W_goBack (fun b => b == 1) = true := by decide +kernel
set_option maxRecDepth 100000 in
theorem wr_goBack : wrOk r_goBack := by
  refine ⟨m_B_goBack, _, _, 651, rfl, ⟨rfl, rfl, rfl⟩, rfl, ⟨_, rfl, rfl⟩, rfl, rfl, fun b B hb h1 => okAll_of wb_goBack hb (beq_eq_false_iff_ne.mpr h1), by decide +kernel, xat_e (i := 572) (by decide +kernel), rfl, rfl, by decide +kernel, by decide, ?_, xat_e (i := 571) (by decide +kernel), xat_e (i := 570) (by decide +kernel), xat_e (i := 569) (by decide +kernel), by decide +kernel, by decide, rfl, by decide +kernel, _, _, rfl⟩
  intro k b hb
  unfold hb_goBack at hb
  split at hb
  · next e =>
    subst e
    obtain rfl := Option.some.inj hb
    exact ⟨Or.inr (Or.inr rfl), 11, 1, _, rfl, rfl, rfl, Or.inr ⟨2, by decide +kernel, rfl, rfl⟩⟩
  · exact nomatch hb
def r_undo : wRec := (48, b_W_undo, hb_undo, (43, 0, 2, 3), (1, 6, false), (yL_undo, cL_undo), (hh_undo, [12]), (125, 2, 3, 42))
theorem wb_undo : okAll yL_undo cL_undo b_W_undo (fun b => b == 1) = true := by decide +kernel
set_option maxRecDepth 100000 in
theorem wr_undo : wrOk r_undo := by
  refine ⟨m_B_undo, _, _, 695, rfl, ⟨rfl, rfl, rfl⟩, rfl, ⟨_, rfl, rfl⟩, rfl, rfl, fun b B hb h1 => okAll_of wb_undo hb (beq_eq_false_iff_ne.mpr h1), by decide +kernel, xat_e (i := 580) (by decide +kernel), rfl, rfl, by decide +kernel, by decide, ?_, xat_e (i := 579) (by decide +kernel), xat_e (i := 578) (by decide +kernel), xat_e (i := 577) (by decide +kernel), by decide +kernel, by decide, rfl, by decide +kernel, _, _, rfl⟩
  intro k b hb
  unfold hb_undo at hb
  split at hb
  · next e =>
    subst e
    obtain rfl := Option.some.inj hb
    exact ⟨Or.inr (Or.inr rfl), 11, 1, _, rfl, rfl, rfl, Or.inr ⟨2, by decide +kernel, rfl, rfl⟩⟩
  · exact nomatch hb
def r_row : wRec := (53, b_W_row, hb_row, (44, 2, 4, 5), (1, 6, false), (yL_row, cL_row), (hh_row, [10, 11]), (128, 4, 5, 45))
theorem wb_row : okAll yL_row cL_row b_W_row (fun b => b == 1) = true := by decide +kernel
set_option maxRecDepth 100000 in
theorem wr_row : wrOk r_row := by
  refine ⟨m_B_row, _, _, 751, rfl, ⟨rfl, rfl, rfl⟩, rfl, ⟨_, rfl, rfl⟩, rfl, rfl, fun b B hb h1 => okAll_of wb_row hb (beq_eq_false_iff_ne.mpr h1), by decide +kernel, xat_e (i := 588) (by decide +kernel), rfl, rfl, by decide +kernel, by decide, ?_, xat_e (i := 587) (by decide +kernel), xat_e (i := 586) (by decide +kernel), xat_e (i := 585) (by decide +kernel), by decide +kernel, by decide, rfl, by decide +kernel, _, _, rfl⟩
  intro k b hb
  unfold hb_row at hb
  split at hb
  · next e =>
    subst e
    obtain rfl := Option.some.inj hb
    exact ⟨Or.inl rfl, 13, 2, _, rfl, rfl, rfl, Or.inl ⟨by decide +kernel, rfl⟩⟩
  · rename_i e0
    split at hb
    · next e =>
      subst e
      obtain rfl := Option.some.inj hb
      exact ⟨Or.inr (Or.inl rfl), 17, 2, _, rfl, rfl, rfl, Or.inl ⟨by decide +kernel, rfl⟩⟩
    · exact nomatch hb
def r_count : wRec := (58, b_W_count, hb_count, (45, 1, 3, 4), (1, 6, false), (yL_count, cL_count), (hh_count, [11]), (131, 3, 4, 48))
theorem wb_count : okAll yL_count cL_count b_W_count (fun b => b == 1) = true := by decide +kernel
set_option maxRecDepth 100000 in
theorem wr_count : wrOk r_count := by
  refine ⟨m_B_count, _, _, 813, rfl, ⟨rfl, rfl, rfl⟩, rfl, ⟨_, rfl, rfl⟩, rfl, rfl, fun b B hb h1 => okAll_of wb_count hb (beq_eq_false_iff_ne.mpr h1), by decide +kernel, xat_e (i := 592) (by decide +kernel), rfl, rfl, by decide +kernel, by decide, ?_, xat_e (i := 591) (by decide +kernel), xat_e (i := 590) (by decide +kernel), xat_e (i := 589) (by decide +kernel), by decide +kernel, by decide, rfl, by decide +kernel, _, _, rfl⟩
  intro k b hb
  unfold hb_count at hb
  split at hb
  · next e =>
    subst e
    obtain rfl := Option.some.inj hb
    exact ⟨Or.inr (Or.inl rfl), 12, 1, _, rfl, rfl, rfl, Or.inr ⟨3, by decide +kernel, rfl, rfl⟩⟩
  · exact nomatch hb
def r_setting : wRec := (63, b_W_setting, hb_setting, (46, 1, 3, 4), (1, 6, false), (yL_setting, cL_setting), (hh_setting, [10]), (134, 3, 4, 51))
theorem wb_setting : okAll yL_setting cL_setting b_W_setting (fun b => b == 1) = true := by decide +kernel
set_option maxRecDepth 100000 in
theorem wr_setting : wrOk r_setting := by
  refine ⟨m_B_setting, _, _, 869, rfl, ⟨rfl, rfl, rfl⟩, rfl, ⟨_, rfl, rfl⟩, rfl, rfl, fun b B hb h1 => okAll_of wb_setting hb (beq_eq_false_iff_ne.mpr h1), by decide +kernel, xat_e (i := 596) (by decide +kernel), rfl, rfl, by decide +kernel, by decide, ?_, xat_e (i := 595) (by decide +kernel), xat_e (i := 594) (by decide +kernel), xat_e (i := 593) (by decide +kernel), by decide +kernel, by decide, rfl, by decide +kernel, _, _, rfl⟩
  intro k b hb
  unfold hb_setting at hb
  split at hb
  · next e =>
    subst e
    obtain rfl := Option.some.inj hb
    exact ⟨Or.inl rfl, 12, 1, _, rfl, rfl, rfl, Or.inr ⟨3, by decide +kernel, rfl, rfl⟩⟩
  · exact nomatch hb
def r_why : wRec := (68, b_W_why, hb_why, (47, 2, 4, 5), (1, 6, false), (yL_why, cL_why), (hh_why, [10, 11]), (137, 4, 5, 54))
theorem wb_why : okAll yL_why cL_why b_W_why (fun b => b == 1) = true := by decide +kernel
set_option maxRecDepth 100000 in
theorem wr_why : wrOk r_why := by
  refine ⟨m_B_why, _, _, 931, rfl, ⟨rfl, rfl, rfl⟩, rfl, ⟨_, rfl, rfl⟩, rfl, rfl, fun b B hb h1 => okAll_of wb_why hb (beq_eq_false_iff_ne.mpr h1), by decide +kernel, xat_e (i := 603) (by decide +kernel), rfl, rfl, by decide +kernel, by decide, ?_, xat_e (i := 602) (by decide +kernel), xat_e (i := 601) (by decide +kernel), xat_e (i := 600) (by decide +kernel), by decide +kernel, by decide, rfl, by decide +kernel, _, _, rfl⟩
  intro k b hb
  unfold hb_why at hb
  split at hb
  · next e =>
    subst e
    obtain rfl := Option.some.inj hb
    exact ⟨Or.inl rfl, 13, 2, _, rfl, rfl, rfl, Or.inl ⟨by decide +kernel, rfl⟩⟩
  · rename_i e0
    split at hb
    · next e =>
      subst e
      obtain rfl := Option.some.inj hb
      exact ⟨Or.inr (Or.inl rfl), 17, 2, _, rfl, rfl, rfl, Or.inl ⟨by decide +kernel, rfl⟩⟩
    · exact nomatch hb
def r_falls : wRec := (73, b_W_falls, hb_falls, (48, 2, 4, 5), (1, 6, false), (yL_falls, cL_falls), (hh_falls, [10, 11]), (140, 4, 5, 57))
theorem wb_falls : okAll yL_falls cL_falls b_W_falls (fun b => b == 1) = true := by decide +kernel
set_option maxRecDepth 100000 in
theorem wr_falls : wrOk r_falls := by
  refine ⟨m_B_falls, _, _, 999, rfl, ⟨rfl, rfl, rfl⟩, rfl, ⟨_, rfl, rfl⟩, rfl, rfl, fun b B hb h1 => okAll_of wb_falls hb (beq_eq_false_iff_ne.mpr h1), by decide +kernel, xat_e (i := 607) (by decide +kernel), rfl, rfl, by decide +kernel, by decide, ?_, xat_e (i := 606) (by decide +kernel), xat_e (i := 605) (by decide +kernel), xat_e (i := 604) (by decide +kernel), by decide +kernel, by decide, rfl, by decide +kernel, _, _, rfl⟩
  intro k b hb
  unfold hb_falls at hb
  split at hb
  · next e =>
    subst e
    obtain rfl := Option.some.inj hb
    exact ⟨Or.inl rfl, 13, 2, _, rfl, rfl, rfl, Or.inl ⟨by decide +kernel, rfl⟩⟩
  · rename_i e0
    split at hb
    · next e =>
      subst e
      obtain rfl := Option.some.inj hb
      exact ⟨Or.inr (Or.inl rfl), 17, 2, _, rfl, rfl, rfl, Or.inl ⟨by decide +kernel, rfl⟩⟩
    · exact nomatch hb
def r_wins : wRec := (78, b_W_wins, hb_wins, (49, 1, 3, 4), (4, 799, true), (yL_wins, cL_wins), (hh_wins, [11]), (143, 3, 4, 60))
theorem wb_wins : okAll yL_wins cL_wins b_W_wins (fun b => b == 1) = true := by decide +kernel
set_option maxRecDepth 100000 in
theorem wr_wins : wrOk r_wins := by
  refine ⟨m_B_wins, _, _, 1061, rfl, ⟨rfl, rfl, rfl⟩, rfl, ⟨_, rfl, rfl⟩, rfl, rfl, fun b B hb h1 => okAll_of wb_wins hb (beq_eq_false_iff_ne.mpr h1), by decide +kernel, xat_e (i := 611) (by decide +kernel), rfl, rfl, by decide +kernel, by decide, ?_, xat_e (i := 610) (by decide +kernel), xat_e (i := 609) (by decide +kernel), xat_e (i := 608) (by decide +kernel), by decide +kernel, by decide, rfl, by decide +kernel, _, _, rfl⟩
  intro k b hb
  unfold hb_wins at hb
  split at hb
  · next e =>
    subst e
    obtain rfl := Option.some.inj hb
    exact ⟨Or.inr (Or.inl rfl), 12, 1, _, rfl, rfl, rfl, Or.inr ⟨3, by decide +kernel, rfl, rfl⟩⟩
  · exact nomatch hb
def r_length : wRec := (84, b_W_length, hb_length, (51, 1, 3, 4), (4, 799, true), (yL_length, cL_length), (hh_length, [11]), (150, 3, 4, 63))
theorem wb_length : okAll yL_length cL_length b_W_length (fun b => b == 1) = true := by decide +kernel
set_option maxRecDepth 100000 in
theorem wr_length : wrOk r_length := by
  refine ⟨m_B_length, _, _, 1130, rfl, ⟨rfl, rfl, rfl⟩, rfl, ⟨_, rfl, rfl⟩, rfl, rfl, fun b B hb h1 => okAll_of wb_length hb (beq_eq_false_iff_ne.mpr h1), by decide +kernel, xat_e (i := 615) (by decide +kernel), rfl, rfl, by decide +kernel, by decide, ?_, xat_e (i := 614) (by decide +kernel), xat_e (i := 613) (by decide +kernel), xat_e (i := 612) (by decide +kernel), by decide +kernel, by decide, rfl, by decide +kernel, _, _, rfl⟩
  intro k b hb
  unfold hb_length at hb
  split at hb
  · next e =>
    subst e
    obtain rfl := Option.some.inj hb
    exact ⟨Or.inr (Or.inl rfl), 12, 1, _, rfl, rfl, rfl, Or.inr ⟨3, by decide +kernel, rfl, rfl⟩⟩
  · exact nomatch hb
def r_pyramids : wRec := (89, b_W_pyramids, hb_pyramids, (52, 1, 3, 4), (4, 799, true), (yL_pyramids, cL_pyramids), (hh_pyramids, [11]), (153, 3, 4, 66))
theorem wb_pyramids : okAll yL_pyramids cL_pyramids b_W_pyramids (fun b => b == 1) = true := by decide +kernel
set_option maxRecDepth 100000 in
theorem wr_pyramids : wrOk r_pyramids := by
  refine ⟨m_B_pyramids, _, _, 1186, rfl, ⟨rfl, rfl, rfl⟩, rfl, ⟨_, rfl, rfl⟩, rfl, rfl, fun b B hb h1 => okAll_of wb_pyramids hb (beq_eq_false_iff_ne.mpr h1), by decide +kernel, xat_e (i := 619) (by decide +kernel), rfl, rfl, by decide +kernel, by decide, ?_, xat_e (i := 618) (by decide +kernel), xat_e (i := 617) (by decide +kernel), xat_e (i := 616) (by decide +kernel), by decide +kernel, by decide, rfl, by decide +kernel, _, _, rfl⟩
  intro k b hb
  unfold hb_pyramids at hb
  split at hb
  · next e =>
    subst e
    obtain rfl := Option.some.inj hb
    exact ⟨Or.inr (Or.inl rfl), 12, 1, _, rfl, rfl, rfl, Or.inr ⟨3, by decide +kernel, rfl, rfl⟩⟩
  · exact nomatch hb
def wR : List wRec := [r_take, r_turn, r_knock, r_put, r_set, r_append, r_obey, r_goBack, r_undo, r_row, r_count, r_setting, r_why, r_falls, r_wins, r_length, r_pyramids]
theorem wR_ok : ∀ r ∈ wR, wrOk r := by
  intro r hr
  simp only [wR, List.mem_cons, List.not_mem_nil, or_false] at hr
  rcases hr with rfl | rfl | rfl | rfl | rfl | rfl | rfl | rfl | rfl | rfl | rfl | rfl | rfl | rfl | rfl | rfl | rfl
  · exact wr_take
  · exact wr_turn
  · exact wr_knock
  · exact wr_put
  · exact wr_set
  · exact wr_append
  · exact wr_obey
  · exact wr_goBack
  · exact wr_undo
  · exact wr_row
  · exact wr_count
  · exact wr_setting
  · exact wr_why
  · exact wr_falls
  · exact wr_wins
  · exact wr_length
  · exact wr_pyramids
