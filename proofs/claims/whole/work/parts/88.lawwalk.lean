/-! ===== the law as a machine: its straight blocks, and its wrappers' calls between them ===== -/
theorem okEs_nm {T : List xM} {KT : List (Nat × Nat)} {y y' : MethodName} {cc : ByteArray} {bl : List xB} {nx : Nat} (hc : y.cls = y'.cls) : ∀ (es : List xE) (pc : Nat), (∀ q ∈ es, ∀ i, q.1 ≠ .putfield i) → okEs T KT y cc bl nx pc es = okEs T KT y' cc bl nx pc es
  | [], pc, _ => rfl
  | (ins, len, r1, r2, v, tb) :: es, pc, h => by
    have ih := okEs_nm (T := T) (KT := KT) (cc := cc) (bl := bl) (nx := nx) hc es (pc + len) (fun q hq => h q (List.mem_cons_of_mem _ hq))
    have h0 : okI T KT y cc bl pc ins len r1 r2 v tb es = okI T KT y' cc bl pc ins len r1 r2 v tb es := by
      have hp : ∀ i, ins ≠ .putfield i := h _ List.mem_cons_self
      obtain ⟨c, n, d⟩ := y
      obtain ⟨c', n', d'⟩ := y'
      obtain rfl : c = c' := hc
      cases ins <;> first | rfl | exact absurd rfl (hp _)
    simp only [okEs, h0, ih]
def nopf (es : List xE) : Bool := es.all fun q => match q.1 with
  | .putfield _ => false
  | _ => true
theorem nopf_e {es : List xE} (h : nopf es = true) : ∀ q ∈ es, ∀ i, q.1 ≠ .putfield i := by
  intro q hq i e
  have := List.all_eq_true.mp h q hq
  rw [e] at this
  cases this
theorem law_nopf : ∀ (b : Nat) (B : xB), b_law[b]? = some B → nopf B.2.1 = true := by
  intro b B hb
  have h : (b_law.all fun B => nopf B.2.1) = true := by decide +kernel
  exact List.all_eq_true.mp h B (List.mem_of_getElem? hb)
/-- the pure part: the law's blocks; a wrapper's call is one step, by what the wrapper is known to answer -/
def EvL (sc : List Int32) : Prop := ∀ K : xK,
  (∀ (b : Nat) (B : xB) (L : xL) (st : List Value) (g : xH) (c s : Nat), b_law[b]? = some B → ps_law b = false →
    wpI (some sc) (fun M' a' h' Q' => Ev xT 20 M' a' h' Q' (fun _ _ => False)) (some .boolean) 601024 7293034 true (fun v _ => v = some (.int 1)) (fun _ _ => False) K B.2.2 B.2.1 L st g c s → K b L st g c s) →
  (∀ r ∈ wR, ∀ (as rest : List Value) (L : xL) (g : xH) (c s : Nat) (Q' : Option Value → xH → Prop), as.length = r.2.2.2.2.2.2.2.2.1 → rest.length ≤ 4 → c + r.2.2.2.2.1.1 ≤ 601024 → s + r.2.2.2.2.1.2.1 ≤ 7293034 → (xfl as).length ≤ r.2.2.2.1.2.2.2 → xwL g.length L → xwS g.length rest →
    EvW 20 r.2.1 r.2.2.1 r.2.2.2.1.1 r.2.2.2.1.2.1 r.2.2.2.1.2.2.1 r.2.2.2.1.2.2.2 r.2.2.2.2.1.1 r.2.2.2.2.1.2.1 r.2.2.2.2.1.2.2 as g Q' →
    (∀ v h', Q' v h' → K (r.1 + 1) L (xpush v rest) h' (c + r.2.2.2.2.1.1) (s + r.2.2.2.2.1.2.1)) → K r.1 L (as.reverse ++ rest) g c s) →
  K 0 (xent 9 [.ref 1001]) [] [] 0 0
set_option maxRecDepth 20000 in
set_option maxHeartbeats 4000000 in
theorem law_walk0 (hT : ∀ i q, xT[i]? = some q → okM xT xKT xHT i q = true) (hOK : ∀ (b : Nat) (B : xB), b_law[b]? = some B → ps_law b = false → okEs xT xKT ⟨RL, "law", ""⟩ code b_law B.2.2 B.1 B.2.1 = true)
    {p : Program} {e : Env} {s : State} {m : MethodId} {below : List Frame} {meth : Method} {c : Code} (l : Launch) (hflags : l.flags = flags0) {b L : Nat} {xs : Nat → Int32} (C0 : lw_At p s m meth c b L xs) (hEv : EvL ((List.range L).map xs)) : W p l e room_1 s m #[Value.ref b] below meth c s.heap [] 0 0 (lw_Z below #[Value.ref b] s) (entryFrame m ([Value.ref b] : List Value).toArray 9) := by
  obtain ⟨hx, hb, hr, hml, hown, hts0, hX, hbl, hlocks, hgv⟩ := C0
  have hfl : l.stackTraces = false := by
    unfold Launch.stackTraces
    rw [hflags]
    decide
  obtain ⟨D, cy, hK0⟩ := law_K hts0
  obtain ⟨tR, hG⟩ := law_G hts0 hgv
  have hN := law_nc hgv
  have hts : ∀ w ∈ xTB, w.before #[Value.ref b] s = true := fun w hw => hts0 w (xTB_in w hw)
  obtain ⟨ad0, e0, e1⟩ : ∃ ad0 : Nat → Nat, ad0 1000 = tR ∧ ad0 1001 = b := ⟨fun i => if i = 1001 then b else tR, rfl, rfl⟩
  have C : xCtx p l s m #[Value.ref b] meth c ⟨RL, meth.name, ""⟩ code 9 (some .boolean) D cy (fun q => s.heap.size ≤ q) (ad0 1000) := by
    rw [e0]
    exact ⟨hx, hb, hr, hml, hown, hts, hlocks, rfl, fun z => absurd (show RL = RX3 from z) (by decide +kernel), hK0, fun q hq => hq, hG, hfl⟩
  have hSd := x_sound hT hfl 20
  have hsc : ∀ lst, some ((List.range L).map xs) = some lst → va_X (ad0 1001) lst.length (fun j => lst.getD j 0) s s.heap ∧ ad0 1001 < s.heap.size ∧ ¬ (s.heap.size ≤ ad0 1001) := by
    intro lst z
    obtain rfl := Option.some.inj z
    rw [e1]
    obtain ⟨scr, a1, a2, a3, a4, a5⟩ := hX
    refine ⟨⟨scr, a1, a2, a3, by rw [a4]; simp, fun j hj => ?_⟩, hbl, Nat.not_le.mpr hbl⟩
    have hj : j < L := by simpa using hj
    rw [a5 j hj]
    simp [hj]
  have hRR : xR 21 room_1 := by
    unfold xR room_1
    exact ⟨by decide, by decide⟩
  have hgo := hEv (fun b' L' st g cs ss => ∀ Bb, b_law[b']? = some Bb → xW p l e room_1 s m #[Value.ref b] below meth c (lw_Z below #[Value.ref b] s) D cy (fun q => s.heap.size ≤ q) ad0 0 true 9 601024 7293034 Bb.1 L' st g cs ss)
    (fun b' Bb L' st g cs ss hBb hps hw Bc hBc => by
      obtain rfl : Bb = Bc := Option.some.inj (hBb.symm.trans hBc)
      refine x_step (y := ⟨RL, meth.name, ""⟩) (cc := code) (bl := b_law) hT hSd C hRR (Nat.le_refl _) (Nat.le_refl _) hsc ?_ (fun ik pc r1 es g cs ss L st h1 h2 h3 h4 h5 h6 => h6.elim)
        (fun b B L st g cs ss h1 h2 => h2 B h1) Bb.2.2 Bb.2.1 Bb.1 L' st g cs ss ?_ hw
      · intro ins pc v h cs ss L hd hr9 h2 h3 hQ
        subst hQ
        intro hc hs ad H locs ls hn had hal hL hl hP hD hS
        cases ins
        case ireturn =>
          refine W.widen h2 h3 ?_
          exact va_forget (fun q hq => hS.2.2 q hq) (W.base (lw_ret (Drawn.sameBut.refl s.drawn lw_cs) hx hb hr hlocks hd))
        case lreturn =>
          obtain ⟨x, h9, -⟩ := hr9
          cases h9
        case freturn =>
          obtain ⟨x, h9, -⟩ := hr9
          cases h9
        case dreturn =>
          obtain ⟨x, h9, -⟩ := hr9
          cases h9
        case areturn =>
          obtain ⟨x, -, -, h9⟩ := hr9
          rcases h9 with ⟨n, h9⟩ | ⟨n, h9⟩ <;> cases h9
        case return_ => exact nomatch hr9.1
        all_goals exact False.elim hr9
      · rw [okEs_nm (y := ⟨RL, meth.name, ""⟩) (y' := ⟨RL, "law", ""⟩) rfl Bb.2.1 Bb.1 (nopf_e (law_nopf b' Bb hBb))]
        exact hOK b' Bb hBb hps)
    (by
      intro r hr1 as rest L' g cs ss Q' hn hr4 hc1 hs1 hlen hwL hwS hE hk
      obtain ⟨b9, bl, hbk, ⟨M, np, iA, nL⟩, ⟨mc, ms, al⟩, ⟨y, cc⟩, ⟨hh, hk9⟩, ⟨idx, n, pcC, idxC⟩⟩ := r
      obtain ⟨q, es2, nx2, pc, hq, ⟨f1, f2, f3⟩, hy, hB0, hC1, hC2, hblk, hdec, hlk, hkt, hcls, hwk, hiA, hhand, hcw, hst, hml9, hokn, hnl, hbp, hdp, es, nx, hb1⟩ := wR_ok _ hr1
      dsimp only at hn hc1 hs1 hlen hE hk f1 f2 f3 hnl
      subst f1 f2 f3
      intro Bb hBb
      obtain rfl : (pc, [], b9) = Bb := Option.some.inj (hbp.symm.trans hBb)
      intro hc hs ad H locs ls hn0 had hal hL hl hP hD hS
      have hM := x_met (w_met hT hfl hSd hq hy (by decide +kernel) hB0 hC1 hC2 hblk hdec hlk hkt hcls hwk hiA (by decide) hhand hlen hE D cy ad H.size) (by rintro E st t ⟨⟨k, h, ad, -, hx, -⟩, -⟩; exact hx)
      have e9 := had 1000 (Or.inr (Nat.le_refl _))
      have C9 : xCtx p l s m #[Value.ref b] meth c ⟨RL, meth.name, ""⟩ code 9 (some .boolean) D cy (fun q => s.heap.size ≤ q) (ad 1000) := by rw [e9]; exact C
      have hst9 : (as.reverse ++ rest).map (cv ad) = (as.map (cv ad)).reverse ++ rest.map (cv ad) := by rw [List.map_append, List.map_reverse]
      have hfree := x_free hD hS (fun q hq => hq)
      have hGI : GoodIn xTB (Cond.codeWith y cc nL (some .int) hh :: xTB) := xGI _ fun w hw => (List.mem_cons.mp hw).elim (fun z => by rw [z]; exact hcw) id
      have cw : vx_CSW room_1 s #[Value.ref b] RL idx y cc nL (some .int) hh (Cond.codeWith y cc nL (some .int) hh :: xTB) (xrm 21 q.2.2.2.2.1 q.2.2.2.2.2.1) q.2.2.2.2.1 q.2.2.2.2.2.1 n := by
        refine ⟨⟨rfl, rfl, ?_, ?_, pay_in hts hGI, List.mem_cons_self⟩, hts _ hcw, ?_, ?_, fun sig h => ?_, hts _ hml9, hts _ hst⟩
        · show 8 + 2 * 21 + 1 ≤ 2048
          decide
        · show 8 + (nL + 11) + (200 + 60 * 21) ≤ 84000
          omega
        · rw [hy]
          exact hts0 _ (by decide +kernel)
        · rw [hy]
          exact ⟨by decide, by decide⟩
        · have h2 := okN_e hokn
          rw [h] at h2
          exact (Option.some.inj h2).symm
      have hrun := vx_runSW (H := H) (locs := locs) (cells := cs) (slots := ss) (below := below) (e := e) (meth := meth) (As := as.map (cv ad)) (rest := rest.map (cv ad)) (g := F0 m pc ls ((as.map (cv ad)).reverse ++ rest.map (cv ad))) (cc := code) (nL := 9) (Ts := xTB) ⟨hx, hb, hml, hown, hts⟩ hM cw
        ⟨x_blindW, fun U hU hW => by
          obtain ⟨q0, q1⟩ := x_pre (as := as) C9 hP hD hS U hU hW
          exact ⟨q0, q1, ncAll.moved hW.alike hN⟩⟩ rfl (by rw [List.length_map]; exact hn) hl.1 rfl (lv_room (xsm_e hr4 ad).2) hdp ⟨hc1, hs1⟩
      rw [hst9]
      exact x_call hrun hS hfree hfree (fun v h' ad' H1 locs1 hQ hn1 had1 hal1 hP1 hD1 hS1 => x_fin (hk v h' hQ _ hb1) hc1 hs1 hn0 had hal hL hl (fun _ => ⟨rfl, hwL, hwS⟩) hn1 had1 hal1 hP1 hD1 hS1))
  obtain ⟨B0, hB0, hpc0⟩ : ∃ B, b_law[0]? = some B ∧ B.1 = 0 := ⟨_, rfl, rfl⟩
  have hgo := hgo B0 hB0
  rw [hpc0] at hgo
  have ha : ([Value.ref 1001] : List Value).map (cv ad0) = [Value.ref b] := by
    show [Value.ref (ad0 1001)] = _
    rw [e1]
  have hlen : (xfl [Value.ref 1001]).length ≤ 9 := by decide
  have hl := lv_entry (([Value.ref 1001] : List Value).map (cv ad0)) (n := 9) (by rw [xfl_lg]; exact hlen)
  have hef : entryFrame m ([Value.ref b] : List Value).toArray 9 = F0 m 0 ((lg_sl (([Value.ref 1001] : List Value).map (cv ad0)) ++ List.replicate (9 - (lg_sl (([Value.ref 1001] : List Value).map (cv ad0))).length) Slot.unset).toArray) [] := by rw [ha, lg_entry_eq]
  rw [hef]
  refine hgo (Nat.zero_le _) (Nat.zero_le _) ad0 s.heap [] _ (Nat.le_refl _) (fun _ _ => rfl) (fun _ => rfl) (xent_len hlen) (xent_has hl) ?_ ?_ va_S.rf
  · intro k q h
    simp [xw] at h
  · refine ⟨fun i j p q h => ?_, fun k q h => ?_⟩ <;> simp [xw] at h
