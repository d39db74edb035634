/-! ===== the law: what is given at its start ===== -/
theorem arr_of {s : State} {args : Array Value} {ty : FieldType} (h : (Cond.arrayClass ty).before args s = true) (hn : ∀ C, ty ≠ .object C) : ∃ cA, ArrOfT s cA ty ∧ va_RA s cA ty := by
  obtain ⟨c, k, comp, h1, h2, h3⟩ := Cond.arrayClass_spec h
  refine ⟨c, fun n z => ⟨(fun k h => by cases h), k, h2, comp, h3⟩, ?_⟩
  cases ty <;> first | exact absurd rfl (hn _) | exact h1
theorem arr_ofO {s : State} {args : Array Value} {C : String} (h : (Cond.arrayOver (.object C)).before args s = true) : ∃ cA, ArrOfT s cA (.object C) ∧ va_RA s cA (.object C) := by
  obtain ⟨comp, c, k, h1, h2, h3, h4, h5⟩ := Cond.arrayOver_spec h
  exact ⟨c, fun n z => ⟨(fun k h => by cases h), k, h3, comp, h4⟩, k, comp, h3, h4, h1, h5⟩
theorem law_K {s : State} {args : Array Value} (hts : ∀ w ∈ lw_tbl, w.before args s = true) : ∃ (D : va_G) (cy : Nat → ClassId), va_K D xCl (xtys cy) s := by
  have hx : ∀ w ∈ xTB, w.before args s = true := fun w hw => hts w (xTB_in w hw)
  obtain ⟨c0, i0, k0⟩ := u_known (C := RX2) (T := TX2) (N := 7) hx (xcl_in 0 _ rfl) (hts (.instantiable RX2 7) (by decide +kernel))
  obtain ⟨c1, i1, k1⟩ := u_known (C := RX3) (T := TX3) (N := 9) hx (xcl_in 1 _ rfl) (hts (.instantiable RX3 9) (by decide +kernel))
  obtain ⟨y0, a0⟩ := arr_of (hts (.arrayClass .int) (by decide +kernel)) nofun
  obtain ⟨y1, a1⟩ := arr_of (hts (.arrayClass .char) (by decide +kernel)) nofun
  obtain ⟨y2, a2⟩ := arr_of (hts (.arrayClass .boolean) (by decide +kernel)) nofun
  obtain ⟨y4, a4⟩ := arr_ofO (hts (.arrayOver (.object RX2)) (by decide +kernel))
  refine ⟨(fun c => match c with | 0 => c0 | _ => c1, fun c => match c with | 0 => i0 | _ => i1), (fun k => match k with | 0 => y0 | 1 => y1 | 2 => y2 | 3 => y0 | _ => y4), fun c q hq => ?_, fun k q hk => ?_⟩
  · match c, hq with
    | 0, hq => cases hq; exact k0
    | 1, hq => cases hq; exact k1
    | n + 2, hq => simp [xCl] at hq
  · match k, hk with
    | 0, hk => cases hk; exact a0
    | 1, hk => cases hk; exact a1
    | 2, hk => cases hk; exact a2
    | 3, hk => cases hk; exact a0
    | 4, hk => cases hk; exact a4
    | n + 5, hk => simp [xtys] at hk
theorem str_of {s : State} {args : Array Value} {own tx : String} {k : Nat} (h : (Cond.stringRef own k tx).before args s = true) : ∃ sa, vk_R own k tx sa s := by
  cases hc : s.vm.findClass own with
  | none =>
    simp only [Cond.before, Cond.holds, Cond.value, hc, Option.map_none] at h
    cases h
  | some cur =>
    obtain ⟨k9, cf, i, a, -, -, -, -, -, he⟩ := Cond.stringRef_spec hc h
    exact ⟨a, vk_R.of h he⟩
theorem law_nc {s : State} {args : Array Value} (h : (Jvm.Cond.and given_1 narrow_1).before args s = true) : ncAll s := by
  have hs := flat_of_before _ h
  intro a b ha hb hab
  rcases ha with rfl | rfl | rfl <;> rcases hb with rfl | rfl | rfl <;> first | exact absurd rfl hab | exact va_Nc.of (hs (.not (.castable _ _)) (by decide +kernel))
theorem xnest_in : ∀ q ∈ xNest, Cond.methodLinkNest q.1 q.2.1 q.2.2.1 q.2.2.2 ∈ lw_tbl := by decide +kernel
theorem xstr_in : ∀ q ∈ xStr, Cond.stringRef RX3 q.1 q.2 ∈ lw_tbl := by decide +kernel
theorem xodd_in : ∀ w ∈ xOdd, w ∈ lw_tbl := by decide +kernel
theorem eq_int {s : State} {args : Array Value} {tm : Term} {x : Int32} (h : (Cond.eq tm (.int x)).before args s = true) : tm.eval args s none [] s = some (.int x) := by
  obtain ⟨y, h1, h2⟩ := Cond.eq_one h
  have h3 : some (Value.int x) = some y := h2
  rw [h1, ← h3]
abbrev rowT : Term := .static "BottlePyramid$Pile" "ROW_START" "[I"
theorem law_G {s : State} {args : Array Value} (hts : ∀ w ∈ lw_tbl, w.before args s = true) (hg : (Jvm.Cond.and given_1 narrow_1).before args s = true) : ∃ tR : Nat, xGl (fun q => s.heap.size ≤ q) tR s s.heap := by
  have hs := flat_of_before _ hg
  have hA : ∀ a : Nat, a < s.heap.size → ¬ s.heap.size ≤ a := fun a h => Nat.not_le.mpr h
  have hel : ∀ j : Nat, j < 5 → (Term.elem rowT (.int (Int32.ofNat j))).eval args s none [] s = some (.int (([0, 5, 9, 12, 14] : List Int32).getD j 0)) := by
    intro j hj
    match j, hj with
    | 0, _ => exact eq_int (hs (.eq (.elem rowT (.int 0)) (.int 0)) (by decide +kernel))
    | 1, _ => exact eq_int (hs (.eq (.elem rowT (.int 1)) (.int 5)) (by decide +kernel))
    | 2, _ => exact eq_int (hs (.eq (.elem rowT (.int 2)) (.int 9)) (by decide +kernel))
    | 3, _ => exact eq_int (hs (.eq (.elem rowT (.int 3)) (.int 12)) (by decide +kernel))
    | 4, _ => exact eq_int (hs (.eq (.elem rowT (.int 4)) (.int 14)) (by decide +kernel))
    | n + 5, hj => omega
  obtain ⟨t, ht, hT⟩ := va_Tof (args := args) (s := s) (tm := rowT) (ty := .int) (N := 5) (f := fun j => .int (([0, 5, 9, 12, 14] : List Int32).getD j 0)) (A := fun q => s.heap.size ≤ q) (by decide) (hs (.arrayOf rowT .int) (by decide +kernel))
    (eq_int (hs (.eq (.length rowT) (.int 5)) (by decide +kernel))) hel hA
  refine ⟨t, va_Zof (hts (.laysStatic RX1 "ROW_START" "[I") (by decide +kernel)) (hts (.initialized RX1) (by decide +kernel)) ht hA, hT, ?_, ?_, fun q hq => va_Nw.of rfl (hts _ (xnest_in q hq)), fun q hq => str_of (hts _ (xstr_in q hq)), va_AO.of (hts _ (by decide +kernel)), fun w hw => ?_⟩
  · exact vx_Zqof (hts (.laysStatic Bundle.tN "UNASSIGNED_STACK" Bundle.steD) (by decide +kernel)) (hts (.initialized Bundle.tN) (by decide +kernel)) (hs (.isRef (.static Bundle.tN "UNASSIGNED_STACK" Bundle.steD)) (by decide +kernel)) hA
  · exact vx_Zqof (hts (.laysStatic Bundle.tN "SUPPRESSED_SENTINEL" Bundle.listD) (by decide +kernel)) (hts (.initialized Bundle.tN) (by decide +kernel)) (hs (.isRef (.static Bundle.tN "SUPPRESSED_SENTINEL" Bundle.listD)) (by decide +kernel)) hA
  · have h := hts w (xodd_in w hw)
    unfold xOdd at hw
    simp only [List.mem_cons, List.not_mem_nil, or_false] at hw
    rcases hw with rfl | rfl | rfl | rfl | rfl | rfl <;> first | exact va_Nw.of rfl h | exact h
