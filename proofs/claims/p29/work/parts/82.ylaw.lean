/-! ===== a method of the law that calls others of the law: a second layer ===== -/
/-- a call of a method of the law: its block, its arguments, budget, what is known of it -/
abbrev cRec : Type := Nat × Nat × Nat × Nat × Bool × (List Value → xH → (Option Value → xH → Prop) → Prop)
/-- what is known of a method of the law, said of the machine -/
def yKn (l : Launch) (sc : Option (List Int32)) (d mc ms : Nat) (al : Bool) (y : MethodName) (cY : ByteArray) (nY : Nat) (retY : Option FieldType) (hd : Cond) (E : List Value → xH → (Option Value → xH → Prop) → Prop) : Prop :=
  (hd = .code y cY nY retY ∨ ∃ hh, hd = .codeWith y cY nY retY hh) ∧
  ∀ as h Q, E as h Q → ∀ (D : va_G) (cy : Nat → ClassId) (ad : Nat → Nat) (sz : Nat), Met l y (hd :: xTB) (xrm d mc ms) (xPcY sc D cy ad h as sz) (xQc D cy ad h.length al (va_A (xw cy ad h) sz) Q) mc ms (va_A (xw cy ad h) sz)
/-- the call agrees with the tables -/
def yLk (cc : ByteArray) (bl : List xB) (b n idx : Nat) (y : MethodName) (nY : Nat) (hd : Cond) : Prop :=
  hd ∈ xTB ∧ Cond.static y ∈ xTB ∧ Cond.methodLink RL idx y ∈ xTB ∧ Cond.initialized RL ∈ xTB ∧ y.cls = RL ∧ okN y n = true ∧ nY ≤ 40 ∧ ∃ pc, bl[b]? = some (pc, [], b) ∧ decode cc pc = .ok (.invokestatic idx, 3) ∧ ∃ es nx, bl[b + 1]? = some (pc + 3, es, nx)
def yCal (l : Launch) (sc : Option (List Int32)) (dc : Nat) (cc : ByteArray) (bl : List xB) (r : cRec) : Prop :=
  ∃ (y : MethodName) (cY : ByteArray) (nY : Nat) (retY : Option FieldType) (hd : Cond) (d idx : Nat), d ≤ dc ∧ yLk cc bl r.1 r.2.1 idx y nY hd ∧ yKn l sc d r.2.2.1 r.2.2.2.1 r.2.2.2.2.1 y cY nY retY hd r.2.2.2.2.2
/-- the pure part -/
def EvY (sc : Option (List Int32)) (bl : List xB) (ps : Nat → Bool) (cR : List cRec) (ret : Option FieldType) (nL mc ms : Nat) (al : Bool) (as : List Value) (h : xH) (Q : Option Value → xH → Prop) : Prop :=
  ∀ K : xK, (∀ (b : Nat) (B : xB) (L : xL) (st : List Value) (g : xH) (c s : Nat), bl[b]? = some B → ps b = false →
      wpI sc (fun M' a' h' Q' => Ev xT 20 M' a' h' Q' (fun _ _ => False)) ret mc ms al Q (fun _ _ => False) K B.2.2 B.2.1 L st g c s → K b L st g c s) →
    (∀ r ∈ cR, ∀ (as rest : List Value) (L : xL) (g : xH) (c s : Nat) (Q' : Option Value → xH → Prop), as.length = r.2.1 → rest.length ≤ 4 → c + r.2.2.1 ≤ mc → s + r.2.2.2.1 ≤ ms → (r.2.2.2.2.1 = true → al = true ∧ xwL g.length L ∧ xwS g.length rest) → r.2.2.2.2.2 as g Q' →
      (∀ v h', Q' v h' → K (r.1 + 1) L (xpush v rest) h' (c + r.2.2.1) (s + r.2.2.2.1)) → K r.1 L (as.reverse ++ rest) g c s) →
    K 0 (xent nL as) [] h 0 0
set_option maxRecDepth 20000 in
set_option maxHeartbeats 4000000 in
theorem y_core (hT : ∀ i q, xT[i]? = some q → okM xT xKT xHT i q = true) {l : Launch} (hfl : l.stackTraces = false) {p : Program} {e : Env} {R : Room} {s : State} {m : MethodId} {args : Array Value} {below : List Frame} {meth : Method} {c : Code} {y : MethodName} {cc : ByteArray} {nL : Nat} {ret : Option FieldType}
    {D : va_G} {cy : Nat → ClassId} {A : Nat → Prop} {ad0 : Nat → Nat} {n0 : Nat} {al : Bool} {mc ms dc : Nat} {bl : List xB} {ps : Nat → Bool} {cR : List cRec} {Qm : State → Prop} {Q : Option Value → xH → Prop} {sc : Option (List Int32)}
    (C : xCtx p l s m args meth c y cc nL ret D cy A (ad0 1000)) (hyc : y.cls = RL) (hRR : xR (dc + 1) R) (h20 : 20 ≤ dc) (hmc : mc ≤ R.cells) (hms : ms ≤ R.slots) (hN : ncAll s)
    (hsc : ∀ lst, sc = some lst → va_X (ad0 1001) lst.length (fun j => lst.getD j 0) s s.heap ∧ ad0 1001 < s.heap.size ∧ ¬ A (ad0 1001))
    (hEnd : ∀ (ins : Instr) (pc : Nat) (v : Option Value) (h : xH) (cs ss : Nat) (L : xL), decode cc pc = .ok (ins, 1) → xrt ret ins v → cs ≤ mc → ss ≤ ms → Q v h → xW p l e R s m args below meth c Qm D cy A ad0 n0 al nL mc ms pc L v.toList h cs ss)
    (hbl : ∀ (b : Nat) (B : xB), bl[b]? = some B → ps b = false → okEs xT xKT y cc bl B.2.2 B.1 B.2.1 = true) (hcal : ∀ r ∈ cR, yCal l sc dc cc bl r) {as : List Value} {h : xH} (hev : EvY sc bl ps cR ret nL mc ms al as h Q) {B0 : xB} (hB0 : bl[0]? = some B0) :
    xW p l e R s m args below meth c Qm D cy A ad0 n0 al nL mc ms B0.1 (xent nL as) [] h 0 0 := by
  have hSd := x_sound hT hfl 20
  have hR20 : xR (20 + 1) R := ⟨Nat.le_trans (by omega) hRR.1, Nat.le_trans (by omega) hRR.2⟩
  obtain ⟨hx, hb, hr, hml, hown, hts, hlocks, hnm, hex, hK0, hA, hG, hfl9⟩ := id C
  have hown9 : s.vm.findClass RL = some m.cls := by rw [← hyc]; exact hown
  refine hev (fun b' L' st g cs ss => ∀ Bb, bl[b']? = some Bb → xW p l e R s m args below meth c Qm D cy A ad0 n0 al nL mc ms Bb.1 L' st g cs ss)
    (fun b' Bb L' st g cs ss hBb hps hw Bc hBc => ?_) ?_ B0 hB0
  · obtain rfl : Bb = Bc := Option.some.inj (hBb.symm.trans hBc)
    exact x_step hT hSd C hR20 hmc hms hsc hEnd (fun ik pc r1 es g cs ss L st h1 h2 h3 h4 h5 h6 => h6.elim)
        (fun b B L st g cs ss h1 h2 => h2 B h1) Bb.2.2 Bb.2.1 Bb.1 L' st g cs ss (hbl b' Bb hBb hps) hw
  · intro r hr1 as rest L' g cs ss Q' hn hr4 hc1 hs1 hal9 hE hk
    obtain ⟨b9, n, mcY, msY, alY, EY⟩ := r
    obtain ⟨yY, cY, nY, retY, hd, dY, idx, hdd, ⟨k1, k2, k3, k4, k5, k6, k7, pc, k8, k9, es, nx, k10⟩, hhd, hM0⟩ := hcal _ hr1
    dsimp only at hn hc1 hs1 hal9 hE hk k6 k8 k10 hM0
    intro Bb hBb
    obtain rfl : (pc, [], b9) = Bb := Option.some.inj (k8.symm.trans hBb)
    intro hc hs ad H locs ls hn0 had hal hL hl hP hD hS
    have hM := hM0 as g Q' hE D cy ad H.size
    have e9 := had 1000 (Or.inr (Nat.le_refl _))
    have e8 := had 1001 (Or.inr (by decide))
    have C9 : xCtx p l s m args meth c y cc nL ret D cy A (ad 1000) := by rw [e9]; exact C
    have hst9 : (as.reverse ++ rest).map (cv ad) = (as.map (cv ad)).reverse ++ rest.map (cv ad) := by rw [List.map_append, List.map_reverse]
    have hfree := x_free hD hS hA
    have hGI : GoodIn xTB (hd :: xTB) := xGI _ fun w hw => (List.mem_cons.mp hw).elim (fun z => by rw [z]; exact k1) id
    have hpre : PreS s H (xPcY sc D cy ad g as H.size) (as.map (cv ad)) := ⟨x_blindY, fun U hU hW => by
      obtain ⟨q0, q1⟩ := x_pre (as := as) C9 hP hD hS U hU hW
      refine ⟨q0, q1, ncAll.moved hW.alike hN, fun lst z => ?_⟩
      obtain ⟨x1, x2, x3⟩ := hsc lst z
      rw [e8]
      refine ⟨va_X.moved hW.alike (x1.kept ?_), Nat.lt_of_lt_of_le x2 hS.1, fun q => x3 (hfree _ q)⟩
      rw [hU]
      exact hS.2.1 _ x2 x3⟩
    have hfr : 8 + 2 * dY + 1 ≤ R.frames ∧ 8 + (nY + 11) + (200 + 60 * dY) ≤ R.locals := by
      obtain ⟨r1, r2⟩ := hRR
      omega
    have hF : cs + mcY ≤ R.cells ∧ ss + msY ≤ R.slots := ⟨Nat.le_trans hc1 hmc, Nat.le_trans hs1 hms⟩
    have hrun : va_Run p l e R s m args below meth c H locs cs ss mcY msY (F0 m pc ls ((as.map (cv ad)).reverse ++ rest.map (cv ad))) (rest.map (cv ad)) (xQc D cy ad g.length alY (va_A (xw cy ad g) H.size) Q' ((as.map (cv ad)).toArray)) (va_A (xw cy ad g) H.size) := by
      have hcls : yY.cls ≠ "java/lang/invoke/MethodHandle" ∧ yY.cls ≠ "java/lang/invoke/VarHandle" := by rw [k5]; exact ⟨by decide, by decide⟩
      have hini : (Cond.initialized yY.cls).before args s = true := by rw [k5]; exact hts _ k4
      rcases hhd with rfl | ⟨hh, rfl⟩
      · exact va_runS (n := n) (cc := cc) (nL := nL) (Ts := xTB) (own := RL) ⟨hx, hb, hml, hown9, hts⟩ hM ⟨callB_of n hts hGI rfl rfl rfl hini (hts _ k3) ⟨hcls.1, hcls.2, okN_e k6⟩ hfr, hts _ k2⟩ hpre rfl (by rw [List.length_map]; exact hn) hl.1 rfl (lv_room (xsm_e hr4 ad).2) k9 hF
      · have cw : vx_CSW R s args RL idx yY cY nY retY hh (Cond.codeWith yY cY nY retY hh :: xTB) (xrm dY mcY msY) mcY msY n :=
          ⟨⟨rfl, rfl, hfr.1, hfr.2, pay_in hts hGI, List.mem_cons_self⟩, hts _ k1, hini, hcls, fun sig h => by
            have h2 := okN_e k6
            rw [h] at h2
            exact (Option.some.inj h2).symm, hts _ k3, hts _ k2⟩
        exact vx_runSW (cc := cc) (nL := nL) (Ts := xTB) ⟨hx, hb, hml, hown9, hts⟩ hM cw hpre rfl (by rw [List.length_map]; exact hn) hl.1 rfl (lv_room (xsm_e hr4 ad).2) k9 hF
    rw [hst9]
    exact x_call hrun hS hfree hfree (fun v h' ad' H1 locs1 hQ hn1 had1 hal1 hP1 hD1 hS1 => x_fin (hk v h' hQ _ k10) hc1 hs1 hn0 had hal hL hl hal9 hn1 had1 hal1 hP1 hD1 hS1)
/-- a method of the law, as a contract -/
theorem y_met (hT : ∀ i q, xT[i]? = some q → okM xT xKT xHT i q = true) {l : Launch} (hfl : l.stackTraces = false) {sc : Option (List Int32)} {y : MethodName} {cc : ByteArray} {nL : Nat} {ret : Option FieldType} {al : Bool} {mc ms dc : Nat} {bl : List xB} {ps : Nat → Bool} {cR : List cRec}
    (hyc : y.cls = RL) (hpl : plainFor y = true) (h20 : 20 ≤ dc) (hB0 : ∃ B, bl[0]? = some B ∧ B.1 = 0) (hbl : ∀ (b : Nat) (B : xB), bl[b]? = some B → ps b = false → okEs xT xKT y cc bl B.2.2 B.1 B.2.1 = true) (hcal : ∀ r ∈ cR, yCal l sc dc cc bl r) :
    yKn l sc (dc + 1) mc ms al y cc nL ret (.code y cc nL ret) (fun as h Q => (xfl as).length ≤ nL ∧ EvY sc bl ps cR ret nL mc ms al as h Q) := by
  refine ⟨Or.inl rfl, ?_⟩
  rintro as h Q ⟨hlen, hev⟩ D cy ad0 sz
  refine x_met (XC := xXc D cy ad0 h.length al (va_A (xw cy ad0 h) sz) (fun _ _ => False)) ?_ (by rintro E st t ⟨⟨k, h, ad, -, hx, -⟩, -⟩; exact hx)
  refine x_ofW (cc := cc) (maxL := nL) (ret := ret) hpl rfl ?_
  rintro p e s m args below meth c s₁ B hml hex ⟨rfl, ⟨hsz, hP, hK, hD, hG⟩, hN, hX⟩
  subst hsz
  have hts0 : ∀ w ∈ (Cond.code y cc nL ret :: xTB), w.before ((as.map (cv ad0)).toArray) s = true := atoms_spec (ws := Cond.code y cc nL ret :: xTB) B.pre
  have hin : meth.name = y.name := (name_of_methodNamed B.named B.method).1
  have hAt : ∀ z, s.heap.size ≤ z → va_A (xw cy ad0 h) s.heap.size z := fun z hz => Or.inr hz
  have C : xCtx p l s m ((as.map (cv ad0)).toArray) meth c y cc nL ret D cy (va_A (xw cy ad0 h) s.heap.size) (ad0 1000) :=
    ⟨B.exec, B.bytes, B.returns, hml, findClass_of_methodNamed B.named, fun w hw => hts0 w (List.mem_cons_of_mem _ hw), B.notSynchronized, hin, fun _ => hex, hK, hAt, hG, hfl⟩
  have hRR : xR (dc + 1) (headSpec (Cond.code y cc nL ret :: xTB) (xrm (dc + 1) mc ms)).room := ⟨Nat.le_refl _, Nat.le_refl _⟩
  obtain ⟨B0, hB0, hpc0⟩ := hB0
  have hgo := y_core (n0 := h.length) (al := al) (Qm := vx_MQ below (xQc D cy ad0 h.length al (va_A (xw cy ad0 h) s.heap.size) Q) (xXc D cy ad0 h.length al (va_A (xw cy ad0 h) s.heap.size) (fun _ _ => False)) ((as.map (cv ad0)).toArray) s mc ms (va_A (xw cy ad0 h) s.heap.size)) (e := e) (below := below) hT hfl C hyc hRR h20 (Nat.le_refl _) (Nat.le_refl _) hN hX
    (fun ins pc v g cs ss L h1 h2 h3 h4 h5 => x_end C ins pc v g cs ss L h1 h2 h3 h4 h5) hbl hcal hev hB0
  rw [hpc0] at hgo
  have hl := lv_entry (as.map (cv ad0)) (n := nL) (by rw [xfl_lg]; exact hlen)
  rw [lg_entry_eq]
  exact hgo (Nat.zero_le _) (Nat.zero_le _) ad0 s.heap [] _ (Nat.le_refl _) (fun _ _ => rfl) (fun _ => rfl) (xent_len hlen) (xent_has hl) hP hD.self va_S.rf
