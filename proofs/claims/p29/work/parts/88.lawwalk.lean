/-! ===== the law stands on a pure statement ===== -/
theorem okEs_nm {T : List xM} {KT : List (Nat × Nat)} {y y' : MethodName} {cc : ByteArray} {bl : List xB} {nx : Nat} (hc : y.cls = y'.cls) : ∀ (es : List xE) (pc : Nat), (∀ q ∈ es, ∀ i, q.1 ≠ .putfield i) → okEs T KT y cc bl nx pc es = okEs T KT y' cc bl nx pc es
  | [], pc, _ => rfl
  | (ins, len, r1, r2, v, tb) :: es, pc, h => by
    have ih := okEs_nm (T := T) (KT := KT) (cc := cc) (bl := bl) (nx := nx) hc es (pc + len) (fun q hq => h q (List.mem_cons_of_mem _ hq))
    have h0 : okI T KT y cc bl pc ins len r1 r2 v tb es = okI T KT y' cc bl pc ins len r1 r2 v tb es := by
      have hp : ∀ i, ins ≠ .putfield i := h _ List.mem_cons_self
      obtain ⟨c, n, d⟩ := y
      obtain ⟨c', n', d'⟩ := y'
      obtain rfl : c = c' := hc
      cases ins <;> first | rfl | exact absurd rfl (hp _)
    simp only [okEs, h0, ih]
def nopf (es : List xE) : Bool := es.all fun q => match q.1 with
  | .putfield _ => false
  | _ => true
theorem nopf_e {es : List xE} (h : nopf es = true) : ∀ q ∈ es, ∀ i, q.1 ≠ .putfield i := by
  intro q hq i e
  have := List.all_eq_true.mp h q hq
  rw [e] at this
  cases this
theorem law_nopf : ∀ (b : Nat) (B : xB), b_law[b]? = some B → nopf B.2.1 = true := by
  intro b B hb
  have h : (b_law.all fun B => nopf B.2.1) = true := by decide +kernel
  exact List.all_eq_true.mp h B (List.mem_of_getElem? hb)
theorem yb_law : okAll ⟨RL, "law", ""⟩ code b_law ps_law = true := by decide +kernel
set_option maxRecDepth 20000 in
set_option maxHeartbeats 4000000 in
theorem law_walk1 (hT : ∀ i q, xT[i]? = some q → okM xT xKT xHT i q = true)
    {p : Program} {e : Env} {s : State} {m : MethodId} {below : List Frame} {meth : Method} {c : Code} (l : Launch) (hflags : l.flags = flags0) {b L : Nat} {xs : Nat → Int32} (C0 : lw_At p s m meth c b L xs)
    (hEv : EvY (some ((List.range L).map xs)) b_law ps_law (cR_law (some ((List.range L).map xs))) (some .boolean) 6 600172 7300668 true [.ref 1001] [] (fun v _ => v = some (.int 1))) :
    W p l e room_1 s m #[Value.ref b] below meth c s.heap [] 0 0 (lw_Z below #[Value.ref b] s) (entryFrame m ([Value.ref b] : List Value).toArray 6) := by
  obtain ⟨hx, hb, hr, hml, hown, hts0, hX, hbl, hlocks, hgv⟩ := C0
  have hfl : l.stackTraces = false := by
    unfold Launch.stackTraces
    rw [hflags]
    decide
  obtain ⟨D, cy, hK0⟩ := law_K hts0
  obtain ⟨tR, hG⟩ := law_G hts0 hgv
  have hN := law_nc hgv
  have hts : ∀ w ∈ xTB, w.before #[Value.ref b] s = true := fun w hw => hts0 w (xTB_in w hw)
  obtain ⟨ad0, e0, e1⟩ : ∃ ad0 : Nat → Nat, ad0 1000 = tR ∧ ad0 1001 = b := ⟨fun i => if i = 1001 then b else tR, rfl, rfl⟩
  have C : xCtx p l s m #[Value.ref b] meth c ⟨RL, meth.name, ""⟩ code 6 (some .boolean) D cy (fun q => s.heap.size ≤ q) (ad0 1000) := by
    rw [e0]
    exact ⟨hx, hb, hr, hml, hown, hts, hlocks, rfl, fun z => absurd (show RL = RX3 from z) (by decide +kernel), hK0, fun q hq => hq, hG, hfl⟩
  have hsc : ∀ lst, some ((List.range L).map xs) = some lst → va_X (ad0 1001) lst.length (fun j => lst.getD j 0) s s.heap ∧ ad0 1001 < s.heap.size ∧ ¬ (s.heap.size ≤ ad0 1001) := by
    intro lst z
    obtain rfl := Option.some.inj z
    rw [e1]
    obtain ⟨scr, a1, a2, a3, a4, a5⟩ := hX
    refine ⟨⟨scr, a1, a2, a3, by rw [a4]; simp, fun j hj => ?_⟩, hbl, Nat.not_le.mpr hbl⟩
    have hj : j < L := by simpa using hj
    rw [a5 j hj]
    simp [hj]
  have hRR : xR 26 room_1 := by
    unfold xR room_1
    exact ⟨by decide, by decide⟩
  obtain ⟨B0, hB0, hpc0⟩ : ∃ B, b_law[0]? = some B ∧ B.1 = 0 := ⟨_, rfl, rfl⟩
  have hgo := y_core (y := ⟨RL, meth.name, ""⟩) (n0 := 0) (Qm := lw_Z below #[Value.ref b] s) (e := e) (below := below) (al := true) (mc := 600172) (ms := 7300668) (dc := 25) hT hfl C rfl hRR (by decide) (Nat.le_refl _) (Nat.le_refl _) hN hsc
    (by
      intro ins pc v h cs ss L hd hr9 h2 h3 hQ
      subst hQ
      intro hc hs ad H locs ls hn had hal hL hl hP hD hS
      cases ins
      case ireturn =>
        refine W.widen h2 h3 ?_
        exact va_forget (fun q hq => hS.2.2 q hq) (W.base (lw_ret (Drawn.sameBut.refl s.drawn lw_cs) hx hb hr hlocks hd))
      case lreturn =>
        obtain ⟨x, h9, -⟩ := hr9
        cases h9
      case freturn =>
        obtain ⟨x, h9, -⟩ := hr9
        cases h9
      case dreturn =>
        obtain ⟨x, h9, -⟩ := hr9
        cases h9
      case areturn =>
        obtain ⟨x, -, -, h9⟩ := hr9
        rcases h9 with ⟨n, h9⟩ | ⟨n, h9⟩ <;> cases h9
      case return_ => exact nomatch hr9.1
      all_goals exact False.elim hr9)
    (fun b' Bb hBb hps => by
      rw [okEs_nm (y := ⟨RL, meth.name, ""⟩) (y' := ⟨RL, "law", ""⟩) rfl Bb.2.1 Bb.1 (nopf_e (law_nopf b' Bb hBb))]
      exact okAll_of yb_law hBb hps)
    (cal_law hT hfl _) hEv hB0
  rw [hpc0] at hgo
  have ha : ([Value.ref 1001] : List Value).map (cv ad0) = [Value.ref b] := by
    show [Value.ref (ad0 1001)] = _
    rw [e1]
  have hlen : (xfl [Value.ref 1001]).length ≤ 6 := by decide
  have hl := lv_entry (([Value.ref 1001] : List Value).map (cv ad0)) (n := 6) (by rw [xfl_lg]; exact hlen)
  have hef : entryFrame m ([Value.ref b] : List Value).toArray 6 = F0 m 0 ((lg_sl (([Value.ref 1001] : List Value).map (cv ad0)) ++ List.replicate (6 - (lg_sl (([Value.ref 1001] : List Value).map (cv ad0))).length) Slot.unset).toArray) [] := by rw [ha, lg_entry_eq]
  rw [hef]
  refine hgo (Nat.zero_le _) (Nat.zero_le _) ad0 s.heap [] _ (Nat.le_refl _) (fun _ _ => rfl) (fun _ => rfl) (xent_len hlen) (xent_has hl) ?_ ?_ va_S.rf
  · intro k q h
    simp [xw] at h
  · refine ⟨fun i j p q h => ?_, fun k q h => ?_⟩ <;> simp [xw] at h
