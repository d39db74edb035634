/-! ===== calls ===== -/
section RXC
variable {p : Program} {l : Launch} {e : Env} {R : Room} {s : State} {m : MethodId} {args : Array Value} {below : List Frame} {meth : Method} {c : Code} {H : Heap} {locs : List Loc} {cells slots : Nat} {Q : State → Prop}
/-- a contract that never throws -/
theorem x_met {y : MethodName} {ws : List Cond} {rm : Room} {Pc : Array Value → State → Prop} {Qc : Array Value → State → Outcome → State → Prop} {XC : String → State → State → Prop} {mc ms : Nat} {free : Addr → Prop}
    (h : vx_Met l y ws rm Pc Qc XC mc ms free) (hX : ∀ E st t, ¬ XC E st t) : Met l y ws rm Pc Qc mc ms free := by
  intro p e ha hc hk s m args below hf happ hP hK
  obtain ⟨k, o, h1, h2, h3, h4⟩ := h p e ha hc hk s m args below hf happ hP hK
  refine ⟨k, o, h1, h2, h3, ?_⟩
  rcases h4 with h4 | ⟨q, rfl, E, ce, L, hx, -⟩
  · exact h4
  · exact absurd hx (hX _ _ _)
theorem x_blind {D : va_G} {cy : Nat → ClassId} {ad0 : Nat → Nat} {h : xH} {as : List Value} {sz : Nat} : FrameBlind (xPc D cy ad0 h as sz) := by
  rintro a U g mk ⟨q0, q1, qP, qK, qD, qG⟩
  exact ⟨q0, q1, qP, va_K.moved (u := U) (U := U.calling g mk a) (Vm.Alike.refl U.vm) qK, qD, xGl.warm (s := U) (U := U.calling g mk a) (State.WarmedH.refl U) qG⟩
theorem x_call {D : va_G} {cy : Nat → ClassId} {A A1 : Nat → Prop} {ad : Nat → Nat} {n : Nat} {al : Bool} {mc ms : Nat} {pc : Nat} {ls : Array Slot} {st0 rest : List Value} {a : Array Value} {Qf : Option Value → xH → Prop} {free : Addr → Prop}
    (hr : va_Run p l e R s m args below meth c H locs cells slots mc ms (F0 m pc ls st0) rest (xQc D cy ad n al A1 Qf a) free) (hS : va_S A s.heap H locs) (hA : ∀ q, A1 q → A q) (hf : ∀ q, free q → A q)
    (kk : ∀ (v : Option Value) (h : xH) (ad' : Nat → Nat) (H1 : Heap) (locs1 : List Loc), Qf v h → n ≤ h.length → (∀ i, i < n ∨ 1000 ≤ i → ad' i = ad i) → (al = false → ad' = ad) → va_P D xCl (xw cy ad' h) H1 → va_D A (xw cy ad' h) → va_S A s.heap H1 locs1 → W p l e R s m args below meth c H1 locs1 (cells + mc) (slots + ms) Q (F0 m (pc + 3) ls ((v.map (cv ad')).toList ++ rest))) : W p l e R s m args below meth c H locs cells slots Q (F0 m pc ls st0) := by
  intro T hT X
  obtain ⟨v, st₀, t, T', L, h0, X', hL, e1, e2, ⟨⟨v', h, ad', hv, hq, hn, had, hal, hP, hK, hD⟩, hz, hk⟩, st⟩ := hr T hT X
  have hv : v = v'.map (cv ad') := by injection hv
  subst hv
  rw [h0] at hz hk
  obtain ⟨t2, a1, b1⟩ := kk v' h ad' T'.heap (locs ++ L) hq hn had hal (by rw [e1]; exact hP) (hD.weaken fun _ _ _ h => hA _ h)
    ⟨Nat.le_trans hS.1 (by rw [e1]; exact hz), fun q h1 h2 => by rw [e1, hk q (Nat.lt_of_lt_of_le h1 hS.1) (fun z => h2 (hA q z))]; exact hS.2.1 q h1 h2, fun q hq => by
      rcases List.mem_append.mp hq with h | h
      · exact hS.2.2 q h
      · exact hf _ (hL q h)⟩ T' rfl X'
  exact ⟨t2, st t2 a1, b1⟩
theorem x_free {cy : Nat → ClassId} {A : Nat → Prop} {ad : Nat → Nat} {h : xH} (hD : va_D A (xw cy ad h)) (hS : va_S A s.heap H locs) (hA : ∀ q, s.heap.size ≤ q → A q) : ∀ q, va_A (xw cy ad h) H.size q → A q := by
  rintro q (⟨k, e, hk⟩ | hq)
  · exact hD.2 k _ hk
  · exact hA q (Nat.le_trans hS.1 hq)
/-- what the callee asks at its start -/
theorem x_pre {y0 : MethodName} {cc : ByteArray} {nL : Nat} {ret : Option FieldType} {D : va_G} {cy : Nat → ClassId} {A : Nat → Prop} {ad : Nat → Nat} {h : xH} {as : List Value}
    (C : xCtx p l s m args meth c y0 cc nL ret D cy A (ad 1000)) (hP : va_P D xCl (xw cy ad h) H) (hD : va_D A (xw cy ad h)) (hS : va_S A s.heap H locs) : ∀ U : State, U.heap = H → s.WarmedH U.vm → xPc D cy ad h as H.size ((as.map (cv ad)).toArray) U := by
  obtain ⟨hx, hb, hr, hml, hown, hts, hlocks, hnm, hex, hK, hA, hG, hfl⟩ := C
  intro U hU hW
  subst hU
  exact ⟨rfl, rfl, hP, va_K.moved hW.alike hK, hD.weaken (fun _ _ _ _ => trivial), xGl.narrow (x_free hD hS hA) ((xGl.warm hW hG).kept hS.2.1)⟩
theorem x_and2' {a b : Bool} (h : (a && b) = true) : a = true ∧ b = true := (Bool.and_eq_true a b).mp h
def xtbOk (q : xM) (tb : List Nat) : Bool := match tb with
  | [_] => decide (q.2.2.2.2.1 = 0) && decide (q.2.2.2.2.2.1 = 0) && !q.2.2.2.2.2.2.1
  | [_, k1, k2] => decide (q.2.2.2.2.1 = k1) && decide (q.2.2.2.2.2.1 = k2) && !q.2.2.2.2.2.2.1
  | [_, k1, k2, _] => decide (q.2.2.2.2.1 = k1) && decide (q.2.2.2.2.2.1 = k2)
  | _ => false
theorem okC_e {T : List xM} {KT : List (Nat × Nat)} {own : String} {idx r1 kind n : Nat} {v : Value} {tb : List Nat} (h : okC T KT own idx r1 kind n v tb = true) : ∃ q, T[r1]? = some q ∧ (Cond.methodLink own idx q.1 ∈ xTB ∨ (own, idx, q.1, RX3) ∈ xNest) ∧ KT[r1]? = some (kind, n) ∧ xtbOk q tb = true := by
  unfold okC at h
  split at h
  · rename_i q e
    obtain ⟨h1, h2⟩ := x_and2' h
    obtain ⟨h3, h4⟩ := x_and2' h1
    refine ⟨q, e, ?_, of_decide_eq_true h4, h2⟩
    split at h3
    · exact Or.inr (List.mem_of_getElem? (of_decide_eq_true h3))
    · exact Or.inl (xlk_e h3)
  · cases h
theorem xcall_e {E : Nat → List Value → xH → (Option Value → xH → Prop) → Prop} {mc ms : Nat} {al : Bool} {M : Nat} {tb : List Nat} {as : List Value} {L : xL} {st : List Value} {h : xH} {cs ss : Nat} {go : xG0} {q : xM} (hc : cs ≤ mc) (hs : ss ≤ ms) (hw : xcall E mc ms al M tb as L st h cs ss go) (ht : xtbOk q tb = true) :
    st.length ≤ 4 ∧ cs + q.2.2.2.2.1 ≤ mc ∧ ss + q.2.2.2.2.2.1 ≤ ms ∧ (q.2.2.2.2.2.2.1 = true → al = true ∧ xwL h.length L ∧ xwS h.length st) ∧ E M as h (fun v h' => go L (xpush v st) h' (cs + q.2.2.2.2.1) (ss + q.2.2.2.2.2.1)) := by
  unfold xcall at hw
  unfold xtbOk at ht
  obtain ⟨h0, hw⟩ := xsm_e2 hw
  refine ⟨h0, ?_⟩
  split at hw
  · obtain ⟨t1, t2⟩ := x_and2' ht
    obtain ⟨t3, t4⟩ := x_and2' t1
    rw [of_decide_eq_true t3, of_decide_eq_true t4]
    refine ⟨hc, hs, fun z => ?_, hw⟩
    rw [z] at t2; cases t2
  · obtain ⟨t1, t2⟩ := x_and2' ht
    obtain ⟨t3, t4⟩ := x_and2' t1
    rw [of_decide_eq_true t3, of_decide_eq_true t4]
    refine ⟨hw.1, hw.2.1, fun z => ?_, hw.2.2⟩
    rw [z] at t2; cases t2
  · obtain ⟨t3, t4⟩ := x_and2' ht
    rw [of_decide_eq_true t3, of_decide_eq_true t4]
    obtain ⟨w1, w2, w3, w4, w5, w6⟩ := hw
    exact ⟨w2, w3, fun _ => ⟨w1, w4, w5⟩, w6⟩
  · exact hw.elim
theorem okM_e {T : List xM} {KT : List (Nat × Nat)} {HT : List (Nat × Nat × Nat × Nat)} {i : Nat} {q : xM} (h : okM T KT HT i q = true) : Cond.code q.1 q.2.1 q.2.2.1 q.2.2.2.1 ∈ xTB ∧ Cond.initialized q.1.cls ∈ xTB ∧ q.2.2.1 ≤ 40 ∧ plainFor q.1 = true ∧ (q.1.cls ≠ "java/lang/invoke/MethodHandle" ∧ q.1.cls ≠ "java/lang/invoke/VarHandle") ∧
    (∀ k n, KT[i]? = some (k, n) → okN q.1 n = true ∧ (k = 0 → Cond.static q.1 ∈ xTB) ∧ (k = 1 → Cond.instanceMethod q.1 ∈ xTB ∧ Cond.selects q.1.cls q.1 q.1 ∈ xTB) ∧ (k = 2 → q.1.name = "<init>" ∧ q.2.2.2.1 = none ∧ Cond.instanceMethod q.1 ∈ xTB)) ∧
    (∃ B, q.2.2.2.2.2.2.2[0]? = some B ∧ B.1 = 0) ∧ ∀ B ∈ q.2.2.2.2.2.2.2, okEs T KT q.1 q.2.1 q.2.2.2.2.2.2.2 B.2.2 B.1 B.2.1 = true := by
  unfold okM at h
  split at h
  case h_2 => cases h
  obtain ⟨h, h7⟩ := x_and2' h
  obtain ⟨h, h6⟩ := x_and2' h
  obtain ⟨h, h8⟩ := x_and2' h
  obtain ⟨h, h5⟩ := x_and2' h
  obtain ⟨h, h4⟩ := x_and2' h
  obtain ⟨h, h3⟩ := x_and2' h
  obtain ⟨h1, h2⟩ := x_and2' h
  refine ⟨xat_e h1, xat_e h2, of_decide_eq_true h3, h4, of_decide_eq_true h5, ?_, ?_, fun B hB => List.all_eq_true.mp h7 B hB⟩
  · intro k n hk
    rw [hk] at h8
    match k, h8 with
    | 0, h8 =>
      obtain ⟨a, b⟩ := x_and2' h8
      exact ⟨b, fun _ => xat_e a, (fun z => by cases z), (fun z => by cases z)⟩
    | 1, h8 =>
      obtain ⟨a, b⟩ := x_and2' h8
      exact ⟨b, (fun z => by cases z), (fun _ => ⟨xat_e (x_and2' a).1, xat_e (x_and2' a).2⟩), (fun z => by cases z)⟩
    | 2, h8 =>
      obtain ⟨a, b⟩ := x_and2' h8
      obtain ⟨a, c⟩ := x_and2' a
      obtain ⟨a, e⟩ := x_and2' a
      exact ⟨b, (fun z => by cases z), (fun z => by cases z), fun _ => ⟨of_decide_eq_true a, of_decide_eq_true e, xat_e c⟩⟩
    | k + 3, h8 => cases h8
  · split at h6
    · exact ⟨_, by assumption, of_decide_eq_true h6⟩
    · cases h6
theorem okN_e {y : MethodName} {n : Nat} (h : okN y n = true) : (parseMethodDescriptor y.desc).map (fun d => d.parameters.length) = some n := of_decide_eq_true h
/-- the words and the room of a callee -/
theorem x_cb {T : List xM} {KT : List (Nat × Nat)} {HT : List (Nat × Nat × Nat × Nat)} {i9 : Nat} {q : xM} {d idx n : Nat} {own : String} (hts : ∀ w ∈ xTB, w.before args s = true) (hok : okM T KT HT i9 q = true) (hl : Cond.methodLink own idx q.1 ∈ xTB) (hn : okN q.1 n = true) (hR : xR (d + 1) R) :
    CallB R s args own idx q.1 q.2.1 q.2.2.1 q.2.2.2.1 (Cond.code q.1 q.2.1 q.2.2.1 q.2.2.2.1 :: xTB) (xrm d q.2.2.2.2.1 q.2.2.2.2.2.1) q.2.2.2.2.1 q.2.2.2.2.2.1 n := by
  obtain ⟨h1, h2, h3, h4, h5, -, -, -⟩ := okM_e hok
  refine callB_of n hts (xGI _ fun w hw => (List.mem_cons.mp hw).elim (fun z => by rw [z]; exact h1) id) rfl rfl rfl (hts _ h2) (hts _ hl) ⟨h5.1, h5.2, okN_e hn⟩ ?_
  obtain ⟨r1, r2⟩ := hR
  show 8 + 2 * d + 1 ≤ R.frames ∧ 8 + (q.2.2.1 + 11) + (200 + 60 * d) ≤ R.locals
  omega
theorem x_cn {T : List xM} {KT : List (Nat × Nat)} {HT : List (Nat × Nat × Nat × Nat)} {i9 : Nat} {q : xM} {d idx n : Nat} {own : String} {A : Nat → Prop} {tR : Nat} (hts : ∀ w ∈ xTB, w.before args s = true) (hG : xGl A tR s s.heap) (hok : okM T KT HT i9 q = true) (hl : (own, idx, q.1, RX3) ∈ xNest) (hn : okN q.1 n = true) (hR : xR (d + 1) R) :
    va_CN R s args own idx q.1 RX3 q.2.1 q.2.2.1 q.2.2.2.1 (Cond.code q.1 q.2.1 q.2.2.1 q.2.2.2.1 :: xTB) (xrm d q.2.2.2.2.1 q.2.2.2.2.2.1) q.2.2.2.2.1 q.2.2.2.2.2.1 n := by
  obtain ⟨h1, h2, h3, h4, h5, -, -, -⟩ := okM_e hok
  refine va_cnB n hts (xGI _ fun w hw => (List.mem_cons.mp hw).elim (fun z => by rw [z]; exact h1) id) rfl rfl rfl (hG.2.2.2.2.1 _ hl) (hts _ h2) ⟨h5.1, h5.2, okN_e hn⟩ ?_
  obtain ⟨r1, r2⟩ := hR
  show 8 + 2 * d + 1 ≤ R.frames ∧ 8 + (q.2.2.1 + 11) + (200 + 60 * d) ≤ R.locals
  omega
/-- behind a call -/
theorem x_fin {D : va_G} {cy : Nat → ClassId} {A : Nat → Prop} {ad0 ad ad' : Nat → Nat} {n0 : Nat} {al alq : Bool} {nL mc ms pc cs ss : Nat} {L : xL} {st : List Value} {h h' : xH} {v : Option Value} {H1 : Heap} {locs1 : List Loc} {ls : Array Slot}
    (go : xW p l e R s m args below meth c Q D cy A ad0 n0 al nL mc ms (pc + 3) L (xpush v st) h' cs ss) (hc : cs ≤ mc) (hs : ss ≤ ms) (hn : n0 ≤ h.length) (had : ∀ i, i < n0 ∨ 1000 ≤ i → ad i = ad0 i) (hal : al = false → ad = ad0) (hL : L.length = nL) (hl : lv_has ls nL (xps ad L))
    (hq : alq = true → al = true ∧ xwL h.length L ∧ xwS h.length st) (hn1 : h.length ≤ h'.length) (had1 : ∀ i, i < h.length ∨ 1000 ≤ i → ad' i = ad i) (hal1 : alq = false → ad' = ad) (hP1 : va_P D xCl (xw cy ad' h') H1) (hD1 : va_D A (xw cy ad' h')) (hS1 : va_S A s.heap H1 locs1) :
    W p l e R s m args below meth c H1 locs1 cs ss Q (F0 m (pc + 3) ls ((v.map (cv ad')).toList ++ st.map (cv ad))) := by
  have e1 : lv_has ls nL (xps ad' L) ∧ st.map (cv ad') = st.map (cv ad) := by
    cases alq with
    | false => rw [hal1 rfl]; exact ⟨hl, rfl⟩
    | true => exact ⟨xwL_eq had1 (hq rfl).2.1 hl, xwS_eq had1 (hq rfl).2.2⟩
  have g := go hc hs ad' H1 locs1 ls (Nat.le_trans hn hn1) (fun i hi => (had1 i (hi.elim (fun z => Or.inl (Nat.lt_of_lt_of_le z hn)) Or.inr)).trans (had i hi))
    (fun z => by
      cases alq with
      | false => rw [hal1 rfl]; exact hal z
      | true => rw [(hq rfl).1] at z; cases z) hL e1.1 hP1 hD1 hS1
  have e2 : (xpush v st).map (cv ad') = (v.map (cv ad')).toList ++ st.map (cv ad) := by
    rw [← e1.2]
    cases v <;> rfl
  rw [e2] at g
  exact g
end RXC
