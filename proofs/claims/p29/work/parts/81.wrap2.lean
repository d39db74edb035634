/-! ===== a wrapper as a method ===== -/
/-- a start of a method of the law: what is at hand, what is given, the script where it is read -/
def xPcY (sc : Option (List Int32)) (D : va_G) (cy : Nat → ClassId) (ad0 : Nat → Nat) (h : xH) (args : List Value) (sz : Nat) : Array Value → State → Prop := va_Pc (args.map (cv ad0)) (fun U => (U.heap.size = sz ∧ va_P D xCl (xw cy ad0 h) U.heap ∧ va_K D xCl (xtys cy) U ∧ va_D (fun _ => True) (xw cy ad0 h) ∧ xGl (va_A (xw cy ad0 h) sz) (ad0 1000) U U.heap) ∧ ncAll U ∧
  ∀ lst, sc = some lst → va_X (ad0 1001) lst.length (fun j => lst.getD j 0) U U.heap ∧ ad0 1001 < sz ∧ ¬ va_A (xw cy ad0 h) sz (ad0 1001))
theorem ncAll.moved {u U : State} (hvm : u.vm.Alike U.vm) (h : ncAll u) : ncAll U := fun a b ha hb hab => va_Nc.moved hvm (h a b ha hb hab)
theorem x_blindY {sc : Option (List Int32)} {D : va_G} {cy : Nat → ClassId} {ad0 : Nat → Nat} {h : xH} {as : List Value} {sz : Nat} : FrameBlind (xPcY sc D cy ad0 h as sz) := by
  rintro a U g mk ⟨q0, ⟨q1, qP, qK, qD, qG⟩, qN, qX⟩
  refine ⟨q0, ⟨q1, qP, va_K.moved (u := U) (U := U.calling g mk a) (Vm.Alike.refl U.vm) qK, qD, xGl.warm (s := U) (U := U.calling g mk a) (State.WarmedH.refl U) qG⟩, ncAll.moved (u := U) (U := U.calling g mk a) (Vm.Alike.refl U.vm) qN, fun lst z => ?_⟩
  obtain ⟨x1, x2, x3⟩ := qX lst z
  exact ⟨va_X.moved (u := U) (U := U.calling g mk a) (Vm.Alike.refl U.vm) x1, x2, x3⟩
/-- the pure part: a wrapper's blocks, with the call that catches at place 1 -/
def EvW (d : Nat) (bl : List xB) (hbk : Nat → Option Nat) (M np iA nL mc ms : Nat) (al : Bool) (as : List Value) (h : xH) (Q : Option Value → xH → Prop) : Prop :=
  ∀ K : xK, (∀ (b : Nat) (B : xB) (L : xL) (st : List Value) (g : xH) (c s : Nat), bl[b]? = some B → b ≠ 1 →
      wpI none (fun M' a' h' Q' => Ev xT d M' a' h' Q' (fun _ _ => False)) (some .int) mc ms al Q (fun _ _ => False) K B.2.2 B.2.1 L st g c s → K b L st g c s) →
    (∀ (L : xL) (As rest : List Value) (g : xH) (Qf : Option Value → xH → Prop) (Xf : Nat → xH → Prop), As.length = np → rest.length ≤ 4 → (∃ (l0 : List Int32) (vs : List Value), g[0]? = some (6, l0, vs)) → xwL g.length L → xwS g.length rest → (∀ (j : Nat) (v : Value), L[j]? = some (some v) → j ≠ iA ∧ ¬ v.category = 2) →
      Ev xT d M (.ref 0 :: As) g Qf Xf → (∀ v h', Qf v h' → K 2 L (xpush v rest) h' mc ms) → (∀ k h', Xf k h' → ∃ b, hbk k = some b ∧ K b L [] h' mc ms) → K 1 L (As.reverse ++ .ref 0 :: rest) g 0 0) →
    K 0 (xent nL as) [] h 0 0
theorem w_met {sc : Option (List Int32)} (hT : ∀ i q, xT[i]? = some q → okM xT xKT xHT i q = true) {l : Launch} (hfl : l.stackTraces = false) {d : Nat} (hSd : xSound xT l d) {y : MethodName} {cc : ByteArray} {nL : Nat} {hh : List (Nat × Nat × Nat × Nat)} {hk : List Nat} {bl : List xB} {hbk : Nat → Option Nat} {M idx np iA pcC : Nat} {q : xM} {es2 : List xE} {nx2 : Nat}
    (hq : xT[M]? = some q) (hy : y.cls = RL) (hpl : plainName RL = true) (hB0 : ∃ B, bl[0]? = some B ∧ B.1 = 0) (hC1 : bl[1]? = some (pcC, [], 1)) (hC2 : bl[2]? = some (pcC + 3, es2, nx2))
    (hbl : ∀ b B, bl[b]? = some B → b ≠ 1 → okEs xT xKT y cc bl B.2.2 B.1 B.2.1 = true) (hdec : decode cc pcC = .ok (.invokevirtual idx, 3)) (hlk : Cond.methodLink RL idx q.1 ∈ xTB) (hkt : xKT[M]? = some (1, np)) (hcls : q.1.cls = RX3)
    (hwk : wOk pcC hh hk = true) (hiA : iA < nL) (hne : RL ≠ RX3)
    (hhand : ∀ k b, hbk k = some b → (k = 10 ∨ k = 11 ∨ k = 12) ∧ ∃ hp len B, wLook k hh hk = some hp ∧ bl[b]? = some B ∧ B.1 = hp + len ∧ ((decode cc hp = .ok (.astore iA, 2) ∧ len = 2) ∨ (∃ k : Fin 4, decode cc hp = .ok (.astore_n k, 1) ∧ (k : Nat) = iA ∧ len = 1)))
    {as : List Value} {h : xH} {Q : Option Value → xH → Prop} (hlen : (xfl as).length ≤ nL) (hev : EvW d bl hbk M np iA nL q.2.2.2.2.1 q.2.2.2.2.2.1 q.2.2.2.2.2.2.1 as h Q) (D : va_G) (cy : Nat → ClassId) (ad0 : Nat → Nat) (sz : Nat) :
    vx_Met l y (Cond.codeWith y cc nL (some .int) hh :: xTB) (xrm (d + 1) q.2.2.2.2.1 q.2.2.2.2.2.1) (xPcY sc D cy ad0 h as sz) (xQc D cy ad0 h.length q.2.2.2.2.2.2.1 (va_A (xw cy ad0 h) sz) Q) (xXc D cy ad0 h.length q.2.2.2.2.2.2.1 (va_A (xw cy ad0 h) sz) (fun _ _ => False)) q.2.2.2.2.1 q.2.2.2.2.2.1 (va_A (xw cy ad0 h) sz) := by
  refine vx_ofWH (cc := cc) (maxL := nL) (ret := some .int) (hh := hh) (by rw [hy]; exact hpl) rfl ?_
  rintro p e s m args below meth c s₁ B hml ⟨rfl, ⟨hsz, hP, hK, hD, hG⟩, hN, -⟩
  subst hsz
  have hts0 : ∀ w ∈ (Cond.codeWith y cc nL (some .int) hh :: xTB), w.before ((as.map (cv ad0)).toArray) s = true := atoms_spec (ws := Cond.codeWith y cc nL (some .int) hh :: xTB) B.pre
  have htab := vx_table (x := y) B (hts0 _ List.mem_cons_self)
  have hin : meth.name = y.name := (name_of_methodNamed B.named B.method).1
  have hAt : ∀ z, s.heap.size ≤ z → va_A (xw cy ad0 h) s.heap.size z := fun z hz => Or.inr hz
  have hts : ∀ w ∈ xTB, w.before ((as.map (cv ad0)).toArray) s = true := fun w hw => hts0 w (List.mem_cons_of_mem _ hw)
  have C : xCtx p l s m ((as.map (cv ad0)).toArray) meth c y cc nL (some .int) D cy (va_A (xw cy ad0 h) s.heap.size) (ad0 1000) :=
    ⟨B.exec, B.bytes, B.returns, hml, findClass_of_methodNamed B.named, hts, B.notSynchronized, hin, fun z => absurd (hy.symm.trans z) hne, hK, hAt, hG, hfl⟩
  have hRR : xR (d + 1) (headSpec (Cond.codeWith y cc nL (some .int) hh :: xTB) (xrm (d + 1) q.2.2.2.2.1 q.2.2.2.2.2.1)).room := ⟨Nat.le_refl _, Nat.le_refl _⟩
  have hok := hT M q hq
  obtain ⟨k3, -, k1, -⟩ := (okM_e hok).2.2.2.2.2.1 1 np hkt
  obtain ⟨k1, k2⟩ := k1 rfl
  have hown : s.vm.findClass RL = some m.cls := by rw [← hy]; exact findClass_of_methodNamed B.named
  obtain ⟨B0, hB0, hpc0⟩ := hB0
  have hgo := hev (fun b L st g cs ss => ∀ Bb, bl[b]? = some Bb → xW p l e (headSpec (Cond.codeWith y cc nL (some .int) hh :: xTB) (xrm (d + 1) q.2.2.2.2.1 q.2.2.2.2.2.1)).room s m ((as.map (cv ad0)).toArray) below meth c (vx_MQ below (xQc D cy ad0 h.length q.2.2.2.2.2.2.1 (va_A (xw cy ad0 h) s.heap.size) Q) (xXc D cy ad0 h.length q.2.2.2.2.2.2.1 (va_A (xw cy ad0 h) s.heap.size) (fun _ _ => False)) ((as.map (cv ad0)).toArray) s q.2.2.2.2.1 q.2.2.2.2.2.1 (va_A (xw cy ad0 h) s.heap.size)) D cy (va_A (xw cy ad0 h) s.heap.size) ad0 h.length q.2.2.2.2.2.2.1 nL q.2.2.2.2.1 q.2.2.2.2.2.1 Bb.1 L st g cs ss)
    (fun b Bb L st g cs ss hBb hb1 hw Bc hBc => by
      obtain rfl : Bb = Bc := Option.some.inj (hBb.symm.trans hBc)
      exact x_step hT hSd C hRR (Nat.le_refl _) (Nat.le_refl _) (fun lst z => by cases z)
        (fun ins pc v g cs ss L h1 h2 h3 h4 h5 => x_end C ins pc v g cs ss L h1 h2 h3 h4 h5)
        (fun ik pc r1 es g cs ss L st h1 h2 h3 h4 h5 h6 => h6.elim)
        (fun b B L st g cs ss h1 h2 => h2 B h1) Bb.2.2 Bb.2.1 Bb.1 L st g cs ss (hbl b Bb hBb hb1) hw)
    (by
      intro L As rest g Qf Xf hn9 hr4 hg0 hwL hwS hno hE k2' kx' Bc hBc
      obtain rfl : (pcC, [], 1) = Bc := Option.some.inj (hC1.symm.trans hBc)
      obtain ⟨l0, vs, hg0⟩ := hg0
      intro hc hs ad H locs ls hn had hal hL hl hP1 hD1 hS1
      obtain ⟨q', hq', hM0⟩ := hSd M _ g _ _ hE
      obtain rfl : q = q' := Option.some.inj (hq.symm.trans hq')
      have hM := hM0 D cy ad H.size
      have e9 := had 1000 (Or.inr (Nat.le_refl _))
      have C9 : xCtx p l s m ((as.map (cv ad0)).toArray) meth c y cc nL (some .int) D cy (va_A (xw cy ad0 h) s.heap.size) (ad 1000) := by rw [e9]; exact C
      have hst : (As.reverse ++ Value.ref 0 :: rest).map (cv ad) = (As.map (cv ad)).reverse ++ Value.ref (ad 0) :: rest.map (cv ad) := by rw [List.map_append, List.map_reverse, List.map_cons]; rfl
      rw [hst]
      have hrc := va_recv hK hP1 (show xCl[1]? = some (RX3, TX3, 9) from rfl) (xw_at hg0)
      have hfree := x_free hD1 hS1 hAt
      have hr : vx_Run p l e (headSpec (Cond.codeWith y cc nL (some .int) hh :: xTB) (xrm (d + 1) q.2.2.2.2.1 q.2.2.2.2.2.1)).room s m ((as.map (cv ad0)).toArray) below meth c H locs 0 0 q.2.2.2.2.1 q.2.2.2.2.2.1 (F0 m pcC ls ((As.map (cv ad)).reverse ++ Value.ref (ad 0) :: rest.map (cv ad))) (rest.map (cv ad)) (xQc D cy ad g.length q.2.2.2.2.2.2.1 (va_A (xw cy ad g) H.size) Qf ((Value.ref (ad 0) :: As.map (cv ad)).toArray)) (xXc D cy ad g.length q.2.2.2.2.2.2.1 (va_A (xw cy ad g) H.size) Xf) (va_A (xw cy ad g) H.size) := by
        refine vx_runV ⟨B.exec, B.bytes, hml, hown, hts⟩ hM ⟨x_cb hts hok hlk k3 hRR, hts _ k1, hts _ (by rw [hcls] at k2; exact k2)⟩ ⟨x_blind, hrc, x_pre C9 hP1 hD1 hS1⟩ rfl (by rw [List.length_map]; exact hn9) hl.1 rfl (lv_room (xsm_e hr4 ad).2) hdec ⟨?_, ?_⟩
        · rw [Nat.zero_add]; exact Nat.le_refl _
        · rw [Nat.zero_add]; exact Nat.le_refl _
      refine x_callX hr hS1 hfree hfree ?_ ?_
      · intro k h' ad' H1 locs1 qa ce hX hn1 had1 hal1 hPx hDx hSx hcell hv hcl
        obtain ⟨b, hb, hKb⟩ := kx' k h' hX
        obtain ⟨hk3, hp, len, Bh, e1, e2, e3, e4⟩ := hhand k b hb
        have e5 : lv_has ls nL (xps ad' L) := by
          cases qa2 : q.2.2.2.2.2.2.1 with
          | false => rw [hal1 qa2]; exact hl
          | true => exact xwL_eq had1 hwL hl
        refine x_cat hown hts hG.2.2.2.2.2.2.2 hN hk3 hcell hv hcl hh hk [] htab (fun z hz => nomatch hz) hwk e1 ?_
        refine x_put B.exec B.bytes e4 hiA e5 hno fun ls' hl' => ?_
        have go := hKb Bh e2 (Nat.le_refl _) (Nat.le_refl _) ad' H1 locs1 ls' (Nat.le_trans hn hn1) (fun i hi => (had1 i (hi.elim (fun z => Or.inl (Nat.lt_of_lt_of_le z hn)) Or.inr)).trans (had i hi))
          (fun z => by rw [hal1 z]; exact hal z) hL hl' hPx hDx hSx
        rw [e3] at go
        rw [Nat.zero_add, Nat.zero_add]
        exact go
      · intro v h' ad' H1 locs1 hQ hn1 had1 hal1 hPx hDx hSx
        rw [Nat.zero_add, Nat.zero_add]
        exact x_fin (k2' v h' hQ _ hC2) (Nat.le_refl _) (Nat.le_refl _) hn had hal hL hl (fun z => ⟨z, hwL, hwS⟩) hn1 had1 hal1 hPx hDx hSx)
  have hgo := hgo B0 hB0
  rw [hpc0] at hgo
  have hl := lv_entry (as.map (cv ad0)) (n := nL) (by rw [xfl_lg]; exact hlen)
  rw [lg_entry_eq]
  exact hgo (Nat.zero_le _) (Nat.zero_le _) ad0 s.heap [] _ (Nat.le_refl _) (fun _ _ => rfl) (fun _ => rfl) (xent_len hlen) (xent_has hl) hP hD.self va_S.rf
