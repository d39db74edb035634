/-! ===== what Ev says holds of the machine ===== -/
theorem xfl_lg (ad : Nat → Nat) : ∀ (as : List Value) , (lg_sl (as.map (cv ad))).length = (xfl as).length
  | [] => rfl
  | v :: as => by
    have ih := xfl_lg ad as
    unfold lg_sl xfl at ih ⊢
    simp only [List.map_cons, List.flatMap_cons, List.length_append, ih, cv_cat]
    split <;> rfl
theorem xfl_at (ad : Nat → Nat) : ∀ (as : List Value) (i j : Nat) (v : Value), (xfl as)[j]? = some (some v) → (i + j, cv ad v) ∈ lv_args i (as.map (cv ad))
  | [], i, j, v, h => by simp [xfl] at h
  | u :: as, i, j, v, h => by
    have h : ((if u.category = 2 then [some u, none] else [some u]) ++ xfl as)[j]? = some (some v) := h
    show (i + j, cv ad v) ∈ (i, cv ad u) :: lv_args (if (cv ad u).category = 2 then i + 2 else i + 1) (as.map (cv ad))
    rw [cv_cat]
    by_cases e : u.category = 2
    · rw [if_pos e] at h ⊢
      match j, h with
      | 0, h =>
        have h : u = v := by simpa using h
        rw [h]; exact List.mem_cons_self
      | 1, h => simp at h
      | j + 2, h =>
        have h : (xfl as)[j]? = some (some v) := by simpa using h
        have := xfl_at ad as (i + 2) j v h
        rw [show i + (j + 2) = i + 2 + j by omega]
        exact List.mem_cons_of_mem _ this
    · rw [if_neg e] at h ⊢
      match j, h with
      | 0, h =>
        have h : u = v := by simpa using h
        rw [h]; exact List.mem_cons_self
      | j + 1, h =>
        have h : (xfl as)[j]? = some (some v) := by simpa using h
        have := xfl_at ad as (i + 1) j v h
        rw [show i + (j + 1) = i + 1 + j by omega]
        exact List.mem_cons_of_mem _ this
theorem xent_len {n : Nat} {as : List Value} (h : (xfl as).length ≤ n) : (xent n as).length = n := by
  unfold xent xpad
  rw [List.length_append, List.length_replicate]
  omega
theorem xent_has {n : Nat} {as : List Value} {ad : Nat → Nat} {ls : Array Slot} (hl : lv_has ls n (lv_args 0 (as.map (cv ad)))) : lv_has ls n (xps ad (xent n as)) := by
  refine lv_less hl fun q hq => ?_
  obtain ⟨j, w⟩ := q
  obtain ⟨u, h1, rfl⟩ := xps_mem.mp hq
  unfold xent xpad at h1
  by_cases hj : j < (xfl as).length
  · rw [List.getElem?_append_left hj] at h1
    have := xfl_at ad as 0 j u h1
    rwa [Nat.zero_add] at this
  · rw [List.getElem?_append_right (by omega), List.getElem?_replicate] at h1
    split at h1 <;> cases h1
section RXU
variable {p : Program} {l : Launch} {e : Env} {R : Room} {s : State} {m : MethodId} {args : Array Value} {below : List Frame} {meth : Method} {c : Code}
theorem x_end {y : MethodName} {cc : ByteArray} {nL : Nat} {ret : Option FieldType} {D : va_G} {cy : Nat → ClassId} {A : Nat → Prop} {ad0 : Nat → Nat} {n0 : Nat} {al : Bool} {mc ms : Nat} {Q : Option Value → xH → Prop} {XC : String → State → State → Prop}
    (C : xCtx p l s m args meth c y cc nL ret D cy A (ad0 1000)) (ins : Instr) (pc : Nat) (v : Option Value) (h : xH) (cs ss : Nat) (L : xL) (hd : decode cc pc = .ok (ins, 1)) (hr : xrt ret ins v) (h2 : cs ≤ mc) (h3 : ss ≤ ms) (hQ : Q v h) :
    xW p l e R s m args below meth c (vx_MQ below (xQc D cy ad0 n0 al A Q) XC args s mc ms A) D cy A ad0 n0 al nL mc ms pc L v.toList h cs ss := by
  intro hc hs ad H locs ls hn had hal hL hl hP hD hS
  obtain ⟨hx, hb, hrt, hml, hown, hts, hlocks, hnm, hex, hK0, hA, hG, hfl⟩ := C
  refine W.widen h2 h3 ?_
  refine vx_ret ?_
  have post : ∀ t : State, t.heap = H → s.WarmedH t.vm → xQc D cy ad0 n0 al A Q args s (.returned (v.map (cv ad))) t := fun t ht hW => ⟨⟨v, h, ad, rfl, hQ, hn, had, hal, by rw [ht]; exact hP, va_K.moved hW.alike hK0, hD⟩, hS.F ht⟩
  cases ins
  case ireturn =>
    obtain ⟨x, rfl, hx9⟩ := hr
    rcases hx9 with rfl | ⟨rfl, hx9⟩
    · exact W.iret hx hb hrt post hS.2.2 hd hlocks
    · exact W.zret hx hb hrt (by rcases hx9 with rfl | rfl <;> decide) post hS.2.2 hd hlocks
  case lreturn =>
    obtain ⟨x, rfl, hx9⟩ := hr
    exact W.lret hx hb (hrt.trans hx9) post hS.2.2 hd hlocks
  case freturn =>
    obtain ⟨x, rfl, hx9⟩ := hr
    exact W.fret hx hb (hrt.trans hx9) post hS.2.2 hd hlocks
  case dreturn =>
    obtain ⟨x, rfl, hx9⟩ := hr
    exact W.dret hx hb (hrt.trans hx9) post hS.2.2 hd hlocks
  case areturn =>
    obtain ⟨x, rfl, hz, hx9⟩ := hr
    have hv : cv ad x = .null ∨ ∃ a, cv ad x = .ref a := by
      rcases hz with ⟨a, rfl⟩ | rfl
      · exact Or.inr ⟨_, rfl⟩
      · exact Or.inl rfl
    rcases hx9 with ⟨n, rfl⟩ | ⟨n, rfl⟩
    · exact W.aret hx hb hrt (Or.inl ⟨n, rfl⟩) hv post hS.2.2 hd hlocks
    · exact W.aret hx hb hrt (Or.inr ⟨n, rfl⟩) hv post hS.2.2 hd hlocks
  case return_ =>
    obtain ⟨rfl, hx9⟩ := hr
    exact W.vret hx hb (hrt.trans hx9) post hS.2.2 hd hlocks
  all_goals exact False.elim hr
theorem xExc_fit (k : Nat) : Bundle.fit (xExc k) = true := by
  unfold xExc
  split <;> decide +kernel
theorem xNames_fit : ∀ n ∈ xNames, Bundle.fit n = true := by decide +kernel
theorem x_thr {y : MethodName} {cc : ByteArray} {nL : Nat} {ret : Option FieldType} {D : va_G} {cy : Nat → ClassId} {A : Nat → Prop} {ad0 : Nat → Nat} {n0 : Nat} {al : Bool} {mc ms d : Nat} {Qc : Array Value → State → Outcome → State → Prop} {X : Nat → xH → Prop}
    (C : xCtx p l s m args meth c y cc nL ret D cy A (ad0 1000)) (hR : xR d R) (hmc : mc ≤ R.cells) (hms : ms ≤ R.slots) (ik pc r1 : Nat) (es : List xE) (h : xH) (cs ss : Nat) (L : xL) (st : List Value) (hd : decode cc pc = .ok (.new ik, 3)) (ht : okT cc y.cls r1 pc ik es = true) (hsm : st.length ≤ 4) (h2 : cs + 1 ≤ mc) (h3 : ss + 6 ≤ ms) (hX : X r1 h) :
    xW p l e R s m args below meth c (vx_MQ below Qc (xXc D cy ad0 n0 al A X) args s mc ms A) D cy A ad0 n0 al nL mc ms pc L st h cs ss := by
  intro hc hs ad H locs ls hn had hal hL hl hP hD hS
  obtain ⟨hx, hb, hrt, hml, hown, hts, hlocks, hnm, hex, hK0, hA, hG, hfl⟩ := C
  have post : ∀ t : State, s.vm.Alike t.vm → H.size ≤ t.heap.size → (∀ q : Nat, q < H.size → t.heap[q]? = H[q]?) → xXc D cy ad0 n0 al A X (xExc r1) s t := fun t ha hz hk =>
    ⟨⟨r1, h, ad, rfl, hX, hn, had, hal, hP.kept (fun k q hq => hk q.1 (hP k q hq).lt), va_K.moved ha hK0, hD⟩, Nat.le_trans hS.1 hz, fun q h1 h2 => (hk q (Nat.lt_of_lt_of_le h1 hS.1)).trans (hS.2.1 q h1 h2)⟩
  have hsum := (xsm_e hsm ad).2
  unfold okT at ht
  split at ht
  · rename_i is _ ic _ _ _
    obtain ⟨ht, t10⟩ := x_and2 ht
    obtain ⟨ht, t9⟩ := x_and2 ht
    obtain ⟨ht, t8⟩ := x_and2 ht
    obtain ⟨ht, t7⟩ := x_and2 ht
    obtain ⟨ht, t6⟩ := x_and2 ht
    obtain ⟨ht, t5⟩ := x_and2 ht
    obtain ⟨ht, t4⟩ := x_and2 ht
    obtain ⟨t1, t2, t3⟩ := x_and3 ht
    obtain ⟨z, hz, hz2⟩ := List.any_eq_true.mp t8
    have hz2 := of_decide_eq_true hz2
    obtain ⟨sa, hsa⟩ := hG.2.2.2.2.2.1 z hz
    have t1 := of_decide_eq_true t1
    rw [hz2, ← t1] at hsa
    refine vx_throwS (A := A) hx hb hfl hown (xExc_fit r1) xNames_fit (hts _ (xin_e t6)) (hts _ (xin_e t7)) hsa (fun w hw => ?_) (fun w hw => List.all_eq_true.mp t10 w hw) hG.2.2.1 hG.2.2.2.1 hS (hl.1.trans hml.symm) hd (of_decide_eq_true t2) (of_decide_eq_true t3) (of_decide_eq_true t4) (of_decide_eq_true t5) (fun x hx => (hex t1 x hx).elim)
      (by have := hR.1; show 2 + 3 < R.frames; omega) (by have := hR.2; show _ + (13 * (2 + 1) + 43) ≤ R.locals; omega) (Nat.le_trans h2 hmc) (Nat.le_trans h3 hms) hlocks post hS.2.2 h2 h3
    rcases (Bool.or_eq_true _ _).mp (List.all_eq_true.mp t9 w hw) with q | q
    · exact hts _ (xin_e q)
    · exact xOdd_use hG.2.2.2.2.2.2.2 _ (of_decide_eq_true q)
  · rename_i is _ ic _ _ _
    obtain ⟨ht, t10⟩ := x_and2 ht
    obtain ⟨ht, t9⟩ := x_and2 ht
    obtain ⟨ht, t8⟩ := x_and2 ht
    obtain ⟨ht, t7⟩ := x_and2 ht
    obtain ⟨ht, t6⟩ := x_and2 ht
    obtain ⟨ht, t5⟩ := x_and2 ht
    obtain ⟨ht, t4⟩ := x_and2 ht
    obtain ⟨t1, t2, t3⟩ := x_and3 ht
    obtain ⟨z, hz, hz2⟩ := List.any_eq_true.mp t8
    have hz2 := of_decide_eq_true hz2
    obtain ⟨sa, hsa⟩ := hG.2.2.2.2.2.1 z hz
    have t1 := of_decide_eq_true t1
    rw [hz2, ← t1] at hsa
    refine vx_throwSW (A := A) hx hb hfl hown (xExc_fit r1) xNames_fit (hts _ (xin_e t6)) (hts _ (xin_e t7)) hsa (fun w hw => ?_) (fun w hw => List.all_eq_true.mp t10 w hw) hG.2.2.1 hG.2.2.2.1 hS (hl.1.trans hml.symm) hd (of_decide_eq_true t2) (of_decide_eq_true t3) (of_decide_eq_true t4) (of_decide_eq_true t5) (fun x hx => (hex t1 x hx).elim)
      (by have := hR.1; show 2 + 3 < R.frames; omega) (by have := hR.2; show _ + (13 * (2 + 1) + 43) ≤ R.locals; omega) (Nat.le_trans h2 hmc) (Nat.le_trans h3 hms) hlocks post hS.2.2 h2 h3
    rcases (Bool.or_eq_true _ _).mp (List.all_eq_true.mp t9 w hw) with q | q
    · exact hts _ (xin_e q)
    · exact xOdd_use hG.2.2.2.2.2.2.2 _ (of_decide_eq_true q)
  · cases ht
end RXU
theorem x_ofW {l : Launch} {y : MethodName} {ws ws' : List Cond} {rm : Room} {Pc : Array Value → State → Prop} {Qc : Array Value → State → Outcome → State → Prop} {XC : String → State → State → Prop} {mc ms : Nat} {free : Addr → Prop} {cc : ByteArray} {maxL : Nat} {ret : Option FieldType}
    (hy : plainFor y = true) (hw : ws = Cond.code y cc maxL ret :: ws')
    (body : ∀ p e s m args below meth c s₁, BodyLoose p l y (headSpec ws rm) cc maxL ret e s m args below meth c s₁ → c.maxLocals = maxL → (∀ x ∈ c.exceptionTable.toList, False) → Pc args s →
      W p l e (headSpec ws rm).room s m args below meth c s.heap [] 0 0 (vx_MQ below Qc XC args s mc ms free) (entryFrame m args maxL)) : vx_Met l y ws rm Pc Qc XC mc ms free := by
  refine MetFree.of_bodySF (code := cc) (maxLocals := maxL) (ret := ret) hy ?_ ?_
  · intro args s m h hn
    obtain ⟨meth, c, h1, h2, h3, h4, h5, h6, -, -⟩ := Cond.code_spec hn (atoms_spec (ws := ws) h _ (by rw [hw]; exact List.mem_cons_self))
    exact ⟨meth, c, h1, h2, h3, h4, h5, h6⟩
  · intro p e s m args below meth c s₁ B hml hP _
    have hh0 : s₁.heap = s.heap := by rw [B.state]; rfl
    have ht : ∀ x ∈ c.exceptionTable.toList, False := by
      obtain ⟨meth9, c9, h1, h2, -, -, -, -, h7, -⟩ := Cond.code_spec B.named (atoms_spec (ws := ws) B.pre _ (by rw [hw]; exact List.mem_cons_self))
      cases Option.some.inj (h1.symm.trans B.method)
      cases Option.some.inj (h2.symm.trans (Stand.of_body B).code)
      intro x hx
      rw [Array.isEmpty_iff.mp h7] at hx
      cases hx
    obtain ⟨t, a1, o, b1, b2, b3⟩ := body p e s m args below meth c s₁ B hml ht hP s₁ hh0 (Stand.of_body B)
    exact ⟨t, o, a1, b1, b2, b3⟩
theorem x_sound {T : List xM} {KT : List (Nat × Nat)} {HT : List (Nat × Nat × Nat × Nat)} {l : Launch} (hT : ∀ i q, T[i]? = some q → okM T KT HT i q = true) (hfl : l.stackTraces = false) : ∀ d, xSound T l d := by
  intro d
  induction d with
  | zero => intro M args h Q X hev; exact hev.elim
  | succ d ihd =>
    rintro M as h Q X ⟨q, hq, hlen, hev⟩
    refine ⟨q, hq, fun D cy ad0 sz => ?_⟩
    have hok := hT M q hq
    obtain ⟨k1, k2, k3, k4, k5, -, ⟨B0, hB0, hpc0⟩, k7⟩ := okM_e hok
    refine x_ofW (cc := q.2.1) (maxL := q.2.2.1) (ret := q.2.2.2.1) k4 rfl ?_
    rintro p e s m args below meth c s₁ B hml hex ⟨rfl, hsz, hP, hK, hD, hG⟩
    subst hsz
    have hts0 : ∀ w ∈ (Cond.code q.1 q.2.1 q.2.2.1 q.2.2.2.1 :: xTB), w.before ((as.map (cv ad0)).toArray) s = true := atoms_spec (ws := Cond.code q.1 q.2.1 q.2.2.1 q.2.2.2.1 :: xTB) B.pre
    have hin : meth.name = q.1.name := (name_of_methodNamed B.named B.method).1
    have hAt : ∀ z, s.heap.size ≤ z → va_A (xw cy ad0 h) s.heap.size z := fun z hz => Or.inr hz
    have C : xCtx p l s m ((as.map (cv ad0)).toArray) meth c q.1 q.2.1 q.2.2.1 q.2.2.2.1 D cy (va_A (xw cy ad0 h) s.heap.size) (ad0 1000) :=
      ⟨B.exec, B.bytes, B.returns, hml, findClass_of_methodNamed B.named, fun w hw => hts0 w (List.mem_cons_of_mem _ hw), B.notSynchronized, hin, fun _ => hex, hK, hAt, hG, hfl⟩
    have hRR : xR (d + 1) (headSpec (Cond.code q.1 q.2.1 q.2.2.1 q.2.2.2.1 :: xTB) (xrm (d + 1) q.2.2.2.2.1 q.2.2.2.2.2.1)).room := ⟨Nat.le_refl _, Nat.le_refl _⟩
    have hgo := hev Q X (fun _ _ h => h) (fun _ _ h => h) (fun b L st g cs ss => ∀ Bb, q.2.2.2.2.2.2.2[b]? = some Bb → xW p l e (headSpec (Cond.code q.1 q.2.1 q.2.2.1 q.2.2.2.1 :: xTB) (xrm (d + 1) q.2.2.2.2.1 q.2.2.2.2.2.1)).room s m ((as.map (cv ad0)).toArray) below meth c (vx_MQ below (xQc D cy ad0 h.length q.2.2.2.2.2.2.1 (va_A (xw cy ad0 h) s.heap.size) Q) (xXc D cy ad0 h.length q.2.2.2.2.2.2.1 (va_A (xw cy ad0 h) s.heap.size) X) ((as.map (cv ad0)).toArray) s q.2.2.2.2.1 q.2.2.2.2.2.1 (va_A (xw cy ad0 h) s.heap.size)) D cy (va_A (xw cy ad0 h) s.heap.size) ad0 h.length q.2.2.2.2.2.2.1 q.2.2.1 q.2.2.2.2.1 q.2.2.2.2.2.1 Bb.1 L st g cs ss)
      (fun b Bb L st g cs ss hBb hw Bc hBc => by
        obtain rfl : Bb = Bc := Option.some.inj (hBb.symm.trans hBc)
        exact x_step hT ihd C hRR (Nat.le_refl _) (Nat.le_refl _) (fun lst z => by cases z)
          (fun ins pc v g cs ss L h1 h2 h3 h4 h5 => x_end C ins pc v g cs ss L h1 h2 h3 h4 h5)
          (fun ik pc r1 es g cs ss L st h1 h2 h3 h4 h5 h6 => x_thr C hRR (Nat.le_refl _) (Nat.le_refl _) ik pc r1 es g cs ss L st h1 h2 h3 h4 h5 h6)
          (fun b B L st g cs ss h1 h2 => h2 B h1) Bb.2.2 Bb.2.1 Bb.1 L st g cs ss (k7 Bb (List.mem_of_getElem? hBb)) hw)
    have hgo := hgo B0 hB0
    rw [hpc0] at hgo
    have hl := lv_entry (as.map (cv ad0)) (n := q.2.2.1) (by rw [xfl_lg]; exact hlen)
    rw [lg_entry_eq]
    exact hgo (Nat.zero_le _) (Nat.zero_le _) ad0 s.heap [] _ (Nat.le_refl _) (fun _ _ => rfl) (fun _ => rfl) (xent_len hlen) (xent_has hl) hP hD.self va_S.rf
