/-! ===== a run of entries is sound: written by program, a case an instruction ===== -/
def xrt (ret : Option FieldType) (ins : Instr) (v : Option Value) : Prop := match ins with
  | .ireturn => ∃ x, v = some (.int x) ∧ (ret = some .int ∨ (ret = some .boolean ∧ (x = 0 ∨ x = 1)))
  | .lreturn => ∃ x, v = some (.long x) ∧ ret = some .long
  | .freturn => ∃ x, v = some (.float x) ∧ ret = some .float
  | .dreturn => ∃ x, v = some (.double x) ∧ ret = some .double
  | .areturn => ∃ x, v = some x ∧ ((∃ a, x = .ref a) ∨ x = .null) ∧ ((∃ n, ret = some (.object n)) ∨ ∃ t, ret = some (.array t))
  | .return_ => v = none ∧ ret = none
  | _ => False
theorem x_and2 {a b : Bool} (h : (a && b) = true) : a = true ∧ b = true := (Bool.and_eq_true a b).mp h
theorem x_and3 {a b c : Bool} (h : (a && b && c) = true) : a = true ∧ b = true ∧ c = true := by
  obtain ⟨h1, h2⟩ := x_and2 h
  obtain ⟨h3, h4⟩ := x_and2 h1
  exact ⟨h3, h4, h2⟩
theorem okA_e {bl : List xB} {t pc : Nat} {off : Int} (h : okA bl t pc off = true) : ∃ B, bl[t]? = some B ∧ (pc : Int) + off = (B.1 : Int) := by
  unfold okA at h
  split at h
  · exact ⟨_, by assumption, of_decide_eq_true h⟩
  · cases h
theorem okAs_e {bl : List xB} {pc : Nat} {offs : Array Int} : ∀ {ts : List Nat} {j : Nat}, okAs bl pc offs j ts = true → ∀ i t, ts[i]? = some t → ∃ off, offs[j + i]? = some off ∧ okA bl t pc off = true
  | [], j, h, i, t, hi => by simp at hi
  | u :: ts, j, h, i, t, hi => by
    obtain ⟨h1, h2⟩ := x_and2 h
    cases i with
    | zero =>
      have hi : u = t := by simpa using hi
      subst hi
      cases ho : offs[j]? with
      | none => rw [ho] at h1; cases h1
      | some off => rw [ho] at h1; exact ⟨off, by simpa using ho, h1⟩
    | succ i =>
      obtain ⟨off, e1, e2⟩ := okAs_e h2 i t (by simpa using hi)
      exact ⟨off, by rw [← e1]; congr 1; omega, e2⟩
theorem xsw_e {dd : Prop} {x : Int32} : ∀ {ps : List Prop} {lo : Nat}, xsw dd x lo ps → (∃ j P, ps[j]? = some P ∧ x = nI (lo + j) ∧ P) ∨ ((∀ j, j < ps.length → ¬ x = nI (lo + j)) ∧ dd)
  | [], lo, h => Or.inr ⟨fun j hj => by simp at hj, h⟩
  | P :: ps, lo, h => by
    by_cases e : x = nI lo
    · exact Or.inl ⟨0, P, rfl, by simpa using e, h.1 e⟩
    · rcases xsw_e (h.2 e) with ⟨j, P', h1, h2, h3⟩ | ⟨h1, h2⟩
      · exact Or.inl ⟨j + 1, P', by simpa using h1, by rw [h2]; congr 1; omega, h3⟩
      · refine Or.inr ⟨fun j hj => ?_, h2⟩
        cases j with
        | zero => simpa using e
        | succ j =>
          have := h1 j (by simp only [List.length_cons] at hj; omega)
          rwa [show lo + (j + 1) = lo + 1 + j by omega]
theorem x_ra {C : String} {s : State} {a b : ClassId} (h1 : va_RA s a (.object C)) (h2 : va_RA s b (.object C)) : a = b := by
  obtain ⟨_, _, -, -, -, e1⟩ := h1
  obtain ⟨_, _, -, -, -, e2⟩ := h2
  exact Option.some.inj (e1.symm.trans e2)
theorem x_up {ad : Nat → Nat} {n q : Nat} (hn : n < 1000) : ∀ i, i < n ∨ 1000 ≤ i → va_up ad n q i = ad i := fun i hi => va_up_ne _ _ (by omega)
theorem xw_new {cy : Nat → ClassId} {ad : Nat → Nat} {h : xH} {q : Nat} {z : xC} (hn : h.length < 1000) (hw : xwH h.length h) (hz : xe cy (va_up ad h.length q) z = xe cy ad z) : xw cy (va_up ad h.length q) (h ++ [z]) = xw cy ad h ++ [(q, xe cy ad z)] := by
  rw [← xw_push, xw_eq (x_up hn) hw, hz, va_up_self]
set_option maxHeartbeats 8000000 in
set_option maxRecDepth 20000 in
theorem x_step {T : List xM} {KT : List (Nat × Nat)} {HT : List (Nat × Nat × Nat × Nat)} {d : Nat} {l : Launch} (hT : ∀ i q, T[i]? = some q → okM T KT HT i q = true) (hSd : xSound T l d) {p : Program} {e : Env} {R : Room} {s : State} {m : MethodId} {args : Array Value} {below : List Frame} {meth : Method} {c : Code} {y : MethodName} {cc : ByteArray} {nL : Nat} {ret : Option FieldType} {D : va_G} {cy : Nat → ClassId} {A : Nat → Prop} {ad0 : Nat → Nat} {n0 : Nat} {al : Bool} {mc ms : Nat} {bl : List xB} {Qm : State → Prop} {Q : Option Value → xH → Prop} {X : Nat → xH → Prop} {K : xK} {sc : Option (List Int32)}
    (C : xCtx p l s m args meth c y cc nL ret D cy A (ad0 1000)) (hR : xR (d + 1) R) (hmc : mc ≤ R.cells) (hms : ms ≤ R.slots)
    (hsc : ∀ lst, sc = some lst → va_X (ad0 1001) lst.length (fun j => lst.getD j 0) s s.heap ∧ ad0 1001 < s.heap.size ∧ ¬ A (ad0 1001))
    (hEnd : ∀ (ins : Instr) (pc : Nat) (v : Option Value) (h : xH) (cs ss : Nat) (L : xL), decode cc pc = .ok (ins, 1) → xrt ret ins v → cs ≤ mc → ss ≤ ms → Q v h → xW p l e R s m args below meth c Qm D cy A ad0 n0 al nL mc ms pc L v.toList h cs ss)
    (hThr : ∀ (ik pc r1 : Nat) (es : List xE) (h : xH) (cs ss : Nat) (L : xL) (st : List Value), decode cc pc = .ok (.new ik, 3) → okT cc y.cls r1 pc ik es = true → st.length ≤ 4 → cs + 1 ≤ mc → ss + 6 ≤ ms → X r1 h → xW p l e R s m args below meth c Qm D cy A ad0 n0 al nL mc ms pc L st h cs ss)
    (hK : ∀ (b : Nat) (B : xB) (L : xL) (st : List Value) (h : xH) (cs ss : Nat), bl[b]? = some B → K b L st h cs ss → xW p l e R s m args below meth c Qm D cy A ad0 n0 al nL mc ms B.1 L st h cs ss) (nx : Nat) :
    ∀ (es : List xE) (pc : Nat) (L : xL) (st : List Value) (h : xH) (cs ss : Nat), okEs T KT y cc bl nx pc es = true → wpI sc (fun M' a' h' Q' => Ev T d M' a' h' Q' (fun _ _ => False)) ret mc ms al Q X K nx es L st h cs ss → xW p l e R s m args below meth c Qm D cy A ad0 n0 al nL mc ms pc L st h cs ss := by
  intro es
  obtain ⟨hx, hb, hr, hml, hown, hts, hlocks, hnm, hex, hK0, hA, hG, hfl⟩ := id C
  have hw_ : ∀ w, xin w = true → w.before args s = true := fun w h => hts w (xin_e h)
  induction es with
  | nil =>
    intro pc L st h cs ss hok hw
    obtain ⟨B, h1, h2⟩ := okA_e hok
    have h3 : pc = B.1 := by omega
    rw [h3]
    exact hK nx B L st h cs ss h1 hw
  | cons q es ih =>
    obtain ⟨ins, len, r1, r2, v, tb⟩ := q
    intro pc L st h cs ss hok hw
    obtain ⟨hd, hi, ho⟩ := x_and3 hok
    replace hd := of_decide_eq_true hd
    replace hw : xop sc (fun M' a' h' Q' => Ev T d M' a' h' Q' (fun _ _ => False)) ret mc ms al Q X K ins r1 r2 v tb L st h cs ss (wpI sc (fun M' a' h' Q' => Ev T d M' a' h' Q' (fun _ _ => False)) ret mc ms al Q X K nx es) := hw
    generalize wpI sc (fun M' a' h' Q' => Ev T d M' a' h' Q' (fun _ _ => False)) ret mc ms al Q X K nx es = go at hw ih
    cases ins
    case iconst n =>
      dsimp only [xop] at hw
      obtain ⟨hi1, hi2⟩ := x_and2 hi
      obtain rfl : len = 1 := of_decide_eq_true hi1
      have hv := of_decide_eq_true hi2
      subst hv
      intro hc hs ad H locs ls hn had hal hL hl hP hD hS
      exact lv_iconst hx hb hd rfl (ih _ _ _ _ _ _ ho hw hc hs ad H locs ls hn had hal hL hl hP hD hS)
    case bipush n =>
      dsimp only [xop] at hw
      obtain ⟨hi1, hi2⟩ := x_and2 hi
      obtain rfl : len = 2 := of_decide_eq_true hi1
      have hv := of_decide_eq_true hi2
      subst hv
      intro hc hs ad H locs ls hn had hal hL hl hP hD hS
      exact lv_bipush hx hb hd rfl (ih _ _ _ _ _ _ ho hw hc hs ad H locs ls hn had hal hL hl hP hD hS)
    case sipush n =>
      dsimp only [xop] at hw
      obtain ⟨hi1, hi2⟩ := x_and2 hi
      obtain rfl : len = 3 := of_decide_eq_true hi1
      have hv := of_decide_eq_true hi2
      subst hv
      intro hc hs ad H locs ls hn had hal hL hl hP hD hS
      exact lv_sipush hx hb hd rfl (ih _ _ _ _ _ _ ho hw hc hs ad H locs ls hn had hal hL hl hP hD hS)
    case lconst n =>
      dsimp only [xop] at hw
      obtain ⟨hi1, hi2⟩ := x_and2 hi
      obtain rfl : len = 1 := of_decide_eq_true hi1
      have hv := of_decide_eq_true hi2
      subst hv
      intro hc hs ad H locs ls hn had hal hL hl hP hD hS
      exact lv_lconst hx hb hd rfl (ih _ _ _ _ _ _ ho hw hc hs ad H locs ls hn had hal hL hl hP hD hS)
    case fconst n =>
      dsimp only [xop] at hw
      obtain ⟨hi1, hi2⟩ := x_and2 hi
      obtain rfl : len = 1 := of_decide_eq_true hi1
      intro hc hs ad H locs ls hn had hal hL hl hP hD hS
      rcases (Bool.or_eq_true _ _).mp hi2 with hi2 | hi2
      · obtain ⟨h1, h2⟩ := x_and2 hi2
        have h1 := of_decide_eq_true h1
        have h2 := of_decide_eq_true h2
        subst h1; subst h2
        exact lv_fconst0 hx hb hd (ih _ _ _ _ _ _ ho hw hc hs ad H locs ls hn had hal hL hl hP hD hS)
      · obtain ⟨h1, h2⟩ := x_and2 hi2
        have h1 := of_decide_eq_true h1
        have h2 := of_decide_eq_true h2
        subst h1; subst h2
        exact lv_fconst1 hx hb hd (ih _ _ _ _ _ _ ho hw hc hs ad H locs ls hn had hal hL hl hP hD hS)
    case dconst n =>
      dsimp only [xop] at hw
      obtain ⟨hi1, hi2⟩ := x_and2 hi
      obtain rfl : len = 1 := of_decide_eq_true hi1
      intro hc hs ad H locs ls hn had hal hL hl hP hD hS
      rcases (Bool.or_eq_true _ _).mp hi2 with hi2 | hi2
      · obtain ⟨h1, h2⟩ := x_and2 hi2
        have h1 := of_decide_eq_true h1
        have h2 := of_decide_eq_true h2
        subst h1; subst h2
        exact lv_dconst0 hx hb hd (ih _ _ _ _ _ _ ho hw hc hs ad H locs ls hn had hal hL hl hP hD hS)
      · obtain ⟨h1, h2⟩ := x_and2 hi2
        have h1 := of_decide_eq_true h1
        have h2 := of_decide_eq_true h2
        subst h1; subst h2
        exact lv_dconst1 hx hb hd (ih _ _ _ _ _ _ ho hw hc hs ad H locs ls hn had hal hL hl hP hD hS)
    case ldc n =>
      dsimp only [xop] at hw
      obtain ⟨hi1, hi2⟩ := x_and2 hi
      obtain rfl : len = 2 := of_decide_eq_true hi1
      intro hc hs ad H locs ls hn had hal hL hl hP hD hS
      cases v
      case int => exact lv_ldc hx hb hown (hw_ (.constant _ _ _) hi2) hd (ih _ _ _ _ _ _ ho hw hc hs ad H locs ls hn had hal hL hl hP hD hS)
      all_goals exact absurd hi2 Bool.false_ne_true
    case ldc_w n =>
      dsimp only [xop] at hw
      obtain ⟨hi1, hi2⟩ := x_and2 hi
      obtain rfl : len = 3 := of_decide_eq_true hi1
      intro hc hs ad H locs ls hn had hal hL hl hP hD hS
      cases v
      case int => exact lv_ldcw hx hb hown (hw_ (.constant _ _ _) hi2) hd (ih _ _ _ _ _ _ ho hw hc hs ad H locs ls hn had hal hL hl hP hD hS)
      all_goals exact absurd hi2 Bool.false_ne_true
    case ldc2_w n =>
      dsimp only [xop] at hw
      obtain ⟨hi1, hi2⟩ := x_and2 hi
      obtain rfl : len = 3 := of_decide_eq_true hi1
      intro hc hs ad H locs ls hn had hal hL hl hP hD hS
      cases v
      case long => exact lv_ldc2 hx hb hown (hw_ (.constantLong _ _ _) hi2) hd (ih _ _ _ _ _ _ ho hw hc hs ad H locs ls hn had hal hL hl hP hD hS)
      case double => exact lv_ldc2d hx hb hown (hw_ (.constantDouble _ _ _) hi2) hd (ih _ _ _ _ _ _ ho hw hc hs ad H locs ls hn had hal hL hl hP hD hS)
      all_goals exact absurd hi2 Bool.false_ne_true
    case iload_n k =>
      dsimp only [xop] at hw
      obtain rfl : len = 1 := of_decide_eq_true hi
      obtain ⟨x, hg, hw1⟩ := xli_e hw
      intro hc hs ad H locs ls hn had hal hL hl hP hD hS
      exact lv_iload_n hx hb hd rfl (xps_at hl hg) (ih _ _ _ _ _ _ ho hw1 hc hs ad H locs ls hn had hal hL hl hP hD hS)
    case iload k =>
      dsimp only [xop] at hw
      obtain rfl : len = 2 := of_decide_eq_true hi
      obtain ⟨x, hg, hw1⟩ := xli_e hw
      intro hc hs ad H locs ls hn had hal hL hl hP hD hS
      exact lv_iload hx hb hd (xps_at hl hg) (ih _ _ _ _ _ _ ho hw1 hc hs ad H locs ls hn had hal hL hl hP hD hS)
    case lload_n k =>
      dsimp only [xop] at hw
      obtain rfl : len = 1 := of_decide_eq_true hi
      obtain ⟨x, hg, hw1⟩ := xlj_e hw
      intro hc hs ad H locs ls hn had hal hL hl hP hD hS
      exact lv_lload_n hx hb hd rfl (xps_at hl hg) (ih _ _ _ _ _ _ ho hw1 hc hs ad H locs ls hn had hal hL hl hP hD hS)
    case lload k =>
      dsimp only [xop] at hw
      obtain rfl : len = 2 := of_decide_eq_true hi
      obtain ⟨x, hg, hw1⟩ := xlj_e hw
      intro hc hs ad H locs ls hn had hal hL hl hP hD hS
      exact lv_lload hx hb hd (xps_at hl hg) (ih _ _ _ _ _ _ ho hw1 hc hs ad H locs ls hn had hal hL hl hP hD hS)
    case fload_n k =>
      dsimp only [xop] at hw
      obtain rfl : len = 1 := of_decide_eq_true hi
      obtain ⟨x, hg, hw1⟩ := xlf_e hw
      intro hc hs ad H locs ls hn had hal hL hl hP hD hS
      exact lv_fload_n hx hb hd rfl (xps_at hl hg) (ih _ _ _ _ _ _ ho hw1 hc hs ad H locs ls hn had hal hL hl hP hD hS)
    case fload k =>
      dsimp only [xop] at hw
      obtain rfl : len = 2 := of_decide_eq_true hi
      obtain ⟨x, hg, hw1⟩ := xlf_e hw
      intro hc hs ad H locs ls hn had hal hL hl hP hD hS
      exact lv_fload hx hb hd (xps_at hl hg) (ih _ _ _ _ _ _ ho hw1 hc hs ad H locs ls hn had hal hL hl hP hD hS)
    case dload_n k =>
      dsimp only [xop] at hw
      obtain rfl : len = 1 := of_decide_eq_true hi
      obtain ⟨x, hg, hw1⟩ := xld_e hw
      intro hc hs ad H locs ls hn had hal hL hl hP hD hS
      exact lv_dload_n hx hb hd rfl (xps_at hl hg) (ih _ _ _ _ _ _ ho hw1 hc hs ad H locs ls hn had hal hL hl hP hD hS)
    case dload k =>
      dsimp only [xop] at hw
      obtain rfl : len = 2 := of_decide_eq_true hi
      obtain ⟨x, hg, hw1⟩ := xld_e hw
      intro hc hs ad H locs ls hn had hal hL hl hP hD hS
      exact lv_dload hx hb hd (xps_at hl hg) (ih _ _ _ _ _ _ ho hw1 hc hs ad H locs ls hn had hal hL hl hP hD hS)
    case aload_n k =>
      dsimp only [xop] at hw
      obtain rfl : len = 1 := of_decide_eq_true hi
      obtain ⟨x, hg, hz, hw1⟩ := xla_e hw
      intro hc hs ad H locs ls hn had hal hL hl hP hD hS
      rcases hz with ⟨a, rfl⟩ | rfl
      · exact lv_aload_n hx hb hd rfl (xps_at hl hg) (ih _ _ _ _ _ _ ho hw1 hc hs ad H locs ls hn had hal hL hl hP hD hS)
      · exact lv_aload_nN hx hb hd rfl (xps_at hl hg) (ih _ _ _ _ _ _ ho hw1 hc hs ad H locs ls hn had hal hL hl hP hD hS)
    case aload k =>
      dsimp only [xop] at hw
      obtain rfl : len = 2 := of_decide_eq_true hi
      obtain ⟨x, hg, hz, hw1⟩ := xla_e hw
      intro hc hs ad H locs ls hn had hal hL hl hP hD hS
      rcases hz with ⟨a, rfl⟩ | rfl
      · exact lv_aload hx hb hd (xps_at hl hg) (ih _ _ _ _ _ _ ho hw1 hc hs ad H locs ls hn had hal hL hl hP hD hS)
      · exact lv_aloadN hx hb hd (xps_at hl hg) (ih _ _ _ _ _ _ ho hw1 hc hs ad H locs ls hn had hal hL hl hP hD hS)
    case istore_n k =>
      dsimp only [xop] at hw
      obtain rfl : len = 1 := of_decide_eq_true hi
      obtain ⟨x, st1, rfl, hw1⟩ := pI_e hw
      obtain ⟨hk, hw2⟩ := xst_e hw1
      intro hc hs ad H locs ls hn had hal hL hl hP hD hS
      exact lv_istore_n hx hb hd rfl hl (by rw [← hL]; exact hk) rfl (fun ls hl => ih _ _ _ _ _ _ ho hw2 hc hs ad H locs ls hn had hal ((xst_len _ _ _).trans hL) (xst_has (v := .int x) hl) hP hD hS)
    case istore k =>
      dsimp only [xop] at hw
      obtain rfl : len = 2 := of_decide_eq_true hi
      obtain ⟨x, st1, rfl, hw1⟩ := pI_e hw
      obtain ⟨hk, hw2⟩ := xst_e hw1
      intro hc hs ad H locs ls hn had hal hL hl hP hD hS
      exact lv_istore hx hb hd hl (by rw [← hL]; exact hk) rfl (fun ls hl => ih _ _ _ _ _ _ ho hw2 hc hs ad H locs ls hn had hal ((xst_len _ _ _).trans hL) (xst_has (v := .int x) hl) hP hD hS)
    case lstore_n k =>
      dsimp only [xop] at hw
      obtain rfl : len = 1 := of_decide_eq_true hi
      obtain ⟨x, st1, rfl, hw1⟩ := pJ_e hw
      obtain ⟨hk, hw2⟩ := xst_e hw1
      intro hc hs ad H locs ls hn had hal hL hl hP hD hS
      exact lv_lstore_n hx hb hd rfl hl (by rw [← hL]; exact hk) rfl (fun ls hl => ih _ _ _ _ _ _ ho hw2 hc hs ad H locs ls hn had hal ((xst2_len _ _ _ hk).trans hL) (xst2_has (v := .long x) hl) hP hD hS)
    case lstore k =>
      dsimp only [xop] at hw
      obtain rfl : len = 2 := of_decide_eq_true hi
      obtain ⟨x, st1, rfl, hw1⟩ := pJ_e hw
      obtain ⟨hk, hw2⟩ := xst_e hw1
      intro hc hs ad H locs ls hn had hal hL hl hP hD hS
      exact lv_lstore hx hb hd hl (by rw [← hL]; exact hk) rfl (fun ls hl => ih _ _ _ _ _ _ ho hw2 hc hs ad H locs ls hn had hal ((xst2_len _ _ _ hk).trans hL) (xst2_has (v := .long x) hl) hP hD hS)
    case dstore_n k =>
      dsimp only [xop] at hw
      obtain rfl : len = 1 := of_decide_eq_true hi
      obtain ⟨x, st1, rfl, hw1⟩ := pD_e hw
      obtain ⟨hk, hw2⟩ := xst_e hw1
      intro hc hs ad H locs ls hn had hal hL hl hP hD hS
      exact lv_dstore_n hx hb hd rfl hl (by rw [← hL]; exact hk) rfl (fun ls hl => ih _ _ _ _ _ _ ho hw2 hc hs ad H locs ls hn had hal ((xst2_len _ _ _ hk).trans hL) (xst2_has (v := .double x) hl) hP hD hS)
    case dstore k =>
      dsimp only [xop] at hw
      obtain rfl : len = 2 := of_decide_eq_true hi
      obtain ⟨x, st1, rfl, hw1⟩ := pD_e hw
      obtain ⟨hk, hw2⟩ := xst_e hw1
      intro hc hs ad H locs ls hn had hal hL hl hP hD hS
      exact lv_dstore hx hb hd hl (by rw [← hL]; exact hk) rfl (fun ls hl => ih _ _ _ _ _ _ ho hw2 hc hs ad H locs ls hn had hal ((xst2_len _ _ _ hk).trans hL) (xst2_has (v := .double x) hl) hP hD hS)
    case fstore k =>
      dsimp only [xop] at hw
      obtain rfl : len = 2 := of_decide_eq_true hi
      obtain ⟨x, st1, rfl, hw1⟩ := pF_e hw
      obtain ⟨hk, hw2⟩ := xst_e hw1
      intro hc hs ad H locs ls hn had hal hL hl hP hD hS
      exact lv_fstore hx hb hd hl (by rw [← hL]; exact hk) rfl (fun ls hl => ih _ _ _ _ _ _ ho hw2 hc hs ad H locs ls hn had hal ((xst_len _ _ _).trans hL) (xst_has (v := .float x) hl) hP hD hS)
    case astore_n k =>
      dsimp only [xop] at hw
      obtain rfl : len = 1 := of_decide_eq_true hi
      obtain ⟨x, st1, rfl, hz, hw1⟩ := pA_e hw
      obtain ⟨hk, hw2⟩ := xst_e hw1
      intro hc hs ad H locs ls hn had hal hL hl hP hD hS
      rcases hz with ⟨a, rfl⟩ | rfl
      · exact lv_astore_n hx hb hd rfl hl (by rw [← hL]; exact hk) rfl (fun ls hl => ih _ _ _ _ _ _ ho hw2 hc hs ad H locs ls hn had hal ((xst_len _ _ _).trans hL) (xst_has (v := .ref a) hl) hP hD hS)
      · exact lv_astore_nN hx hb hd rfl hl (by rw [← hL]; exact hk) rfl (fun ls hl => ih _ _ _ _ _ _ ho hw2 hc hs ad H locs ls hn had hal ((xst_len _ _ _).trans hL) (xst_has (v := .null) hl) hP hD hS)
    case astore k =>
      dsimp only [xop] at hw
      obtain rfl : len = 2 := of_decide_eq_true hi
      obtain ⟨x, st1, rfl, hz, hw1⟩ := pA_e hw
      obtain ⟨hk, hw2⟩ := xst_e hw1
      intro hc hs ad H locs ls hn had hal hL hl hP hD hS
      rcases hz with ⟨a, rfl⟩ | rfl
      · exact lv_astore hx hb hd hl (by rw [← hL]; exact hk) rfl (fun ls hl => ih _ _ _ _ _ _ ho hw2 hc hs ad H locs ls hn had hal ((xst_len _ _ _).trans hL) (xst_has (v := .ref a) hl) hP hD hS)
      · exact lv_astoreN hx hb hd hl (by rw [← hL]; exact hk) rfl (fun ls hl => ih _ _ _ _ _ _ ho hw2 hc hs ad H locs ls hn had hal ((xst_len _ _ _).trans hL) (xst_has (v := .null) hl) hP hD hS)
    case iinc k n =>
      dsimp only [xop] at hw
      obtain ⟨hi1, hi2⟩ := x_and2 hi
      obtain rfl : len = 3 := of_decide_eq_true hi1
      have hv := of_decide_eq_true hi2
      subst hv
      obtain ⟨x, hg, hw1⟩ := xli_e hw
      obtain ⟨hk, hw2⟩ := xst_e (L := L) (n := k) hw1
      intro hc hs ad H locs ls hn had hal hL hl hP hD hS
      obtain ⟨j, hj⟩ := List.getElem?_of_mem (xps_mem (ad := ad).mpr ⟨.int x, xlg_at L k _ hg, rfl⟩)
      exact lv_iinc hx hb hd hl hj rfl (by rw [← hL]; exact hk) rfl (fun ls hl => ih _ _ _ _ _ _ ho hw2 hc hs ad H locs ls hn had hal ((xst_len _ _ _).trans hL) (xst_has (v := .int (x + Int32.ofInt n)) hl) hP hD hS)
    case iadd =>
      dsimp only [xop] at hw
      obtain rfl : len = 1 := of_decide_eq_true hi
      obtain ⟨y1, st1, rfl, hw1⟩ := pI_e hw
      obtain ⟨x1, st2, rfl, hw2⟩ := pI_e hw1
      intro hc hs ad H locs ls hn had hal hL hl hP hD hS
      exact lv_iadd hx hb hd (ih _ _ _ _ _ _ ho hw2 hc hs ad H locs ls hn had hal hL hl hP hD hS)
    case isub =>
      dsimp only [xop] at hw
      obtain rfl : len = 1 := of_decide_eq_true hi
      obtain ⟨y1, st1, rfl, hw1⟩ := pI_e hw
      obtain ⟨x1, st2, rfl, hw2⟩ := pI_e hw1
      intro hc hs ad H locs ls hn had hal hL hl hP hD hS
      exact lv_isub hx hb hd (ih _ _ _ _ _ _ ho hw2 hc hs ad H locs ls hn had hal hL hl hP hD hS)
    case imul =>
      dsimp only [xop] at hw
      obtain rfl : len = 1 := of_decide_eq_true hi
      obtain ⟨y1, st1, rfl, hw1⟩ := pI_e hw
      obtain ⟨x1, st2, rfl, hw2⟩ := pI_e hw1
      intro hc hs ad H locs ls hn had hal hL hl hP hD hS
      exact lv_imul hx hb hd (ih _ _ _ _ _ _ ho hw2 hc hs ad H locs ls hn had hal hL hl hP hD hS)
    case iand =>
      dsimp only [xop] at hw
      obtain rfl : len = 1 := of_decide_eq_true hi
      obtain ⟨y1, st1, rfl, hw1⟩ := pI_e hw
      obtain ⟨x1, st2, rfl, hw2⟩ := pI_e hw1
      intro hc hs ad H locs ls hn had hal hL hl hP hD hS
      exact lv_iand hx hb hd (ih _ _ _ _ _ _ ho hw2 hc hs ad H locs ls hn had hal hL hl hP hD hS)
    case ior =>
      dsimp only [xop] at hw
      obtain rfl : len = 1 := of_decide_eq_true hi
      obtain ⟨y1, st1, rfl, hw1⟩ := pI_e hw
      obtain ⟨x1, st2, rfl, hw2⟩ := pI_e hw1
      intro hc hs ad H locs ls hn had hal hL hl hP hD hS
      exact lv_ior hx hb hd (ih _ _ _ _ _ _ ho hw2 hc hs ad H locs ls hn had hal hL hl hP hD hS)
    case ixor =>
      dsimp only [xop] at hw
      obtain rfl : len = 1 := of_decide_eq_true hi
      obtain ⟨y1, st1, rfl, hw1⟩ := pI_e hw
      obtain ⟨x1, st2, rfl, hw2⟩ := pI_e hw1
      intro hc hs ad H locs ls hn had hal hL hl hP hD hS
      exact lv_ixor hx hb hd (ih _ _ _ _ _ _ ho hw2 hc hs ad H locs ls hn had hal hL hl hP hD hS)
    case ishl =>
      dsimp only [xop] at hw
      obtain rfl : len = 1 := of_decide_eq_true hi
      obtain ⟨y1, st1, rfl, hw1⟩ := pI_e hw
      obtain ⟨x1, st2, rfl, hw2⟩ := pI_e hw1
      intro hc hs ad H locs ls hn had hal hL hl hP hD hS
      exact lv_ishl hx hb hd (ih _ _ _ _ _ _ ho hw2 hc hs ad H locs ls hn had hal hL hl hP hD hS)
    case ishr =>
      dsimp only [xop] at hw
      obtain rfl : len = 1 := of_decide_eq_true hi
      obtain ⟨y1, st1, rfl, hw1⟩ := pI_e hw
      obtain ⟨x1, st2, rfl, hw2⟩ := pI_e hw1
      intro hc hs ad H locs ls hn had hal hL hl hP hD hS
      exact lv_ishr hx hb hd (ih _ _ _ _ _ _ ho hw2 hc hs ad H locs ls hn had hal hL hl hP hD hS)
    case iushr =>
      dsimp only [xop] at hw
      obtain rfl : len = 1 := of_decide_eq_true hi
      obtain ⟨y1, st1, rfl, hw1⟩ := pI_e hw
      obtain ⟨x1, st2, rfl, hw2⟩ := pI_e hw1
      intro hc hs ad H locs ls hn had hal hL hl hP hD hS
      exact lv_iushr hx hb hd rfl (ih _ _ _ _ _ _ ho hw2 hc hs ad H locs ls hn had hal hL hl hP hD hS)
    case idiv =>
      dsimp only [xop] at hw
      obtain rfl : len = 1 := of_decide_eq_true hi
      obtain ⟨y1, st1, rfl, hw1⟩ := pI_e hw
      obtain ⟨x1, st2, rfl, hne, hw2⟩ := pI_e hw1
      intro hc hs ad H locs ls hn had hal hL hl hP hD hS
      exact lv_idiv hx hb hd hne (ih _ _ _ _ _ _ ho hw2 hc hs ad H locs ls hn had hal hL hl hP hD hS)
    case irem =>
      dsimp only [xop] at hw
      obtain rfl : len = 1 := of_decide_eq_true hi
      obtain ⟨y1, st1, rfl, hw1⟩ := pI_e hw
      obtain ⟨x1, st2, rfl, hne, hw2⟩ := pI_e hw1
      intro hc hs ad H locs ls hn had hal hL hl hP hD hS
      exact lv_irem hx hb hd hne (ih _ _ _ _ _ _ ho hw2 hc hs ad H locs ls hn had hal hL hl hP hD hS)
    case lshl =>
      dsimp only [xop] at hw
      obtain rfl : len = 1 := of_decide_eq_true hi
      obtain ⟨y1, st1, rfl, hw1⟩ := pI_e hw
      obtain ⟨x1, st2, rfl, hw2⟩ := pJ_e hw1
      intro hc hs ad H locs ls hn had hal hL hl hP hD hS
      exact lv_lshl hx hb hd rfl (ih _ _ _ _ _ _ ho hw2 hc hs ad H locs ls hn had hal hL hl hP hD hS)
    case ladd =>
      dsimp only [xop] at hw
      obtain rfl : len = 1 := of_decide_eq_true hi
      obtain ⟨y1, st1, rfl, hw1⟩ := pJ_e hw
      obtain ⟨x1, st2, rfl, hw2⟩ := pJ_e hw1
      intro hc hs ad H locs ls hn had hal hL hl hP hD hS
      exact lv_ladd hx hb hd (ih _ _ _ _ _ _ ho hw2 hc hs ad H locs ls hn had hal hL hl hP hD hS)
    case lmul =>
      dsimp only [xop] at hw
      obtain rfl : len = 1 := of_decide_eq_true hi
      obtain ⟨y1, st1, rfl, hw1⟩ := pJ_e hw
      obtain ⟨x1, st2, rfl, hw2⟩ := pJ_e hw1
      intro hc hs ad H locs ls hn had hal hL hl hP hD hS
      exact lv_lmul hx hb hd (ih _ _ _ _ _ _ ho hw2 hc hs ad H locs ls hn had hal hL hl hP hD hS)
    case lcmp =>
      dsimp only [xop] at hw
      obtain rfl : len = 1 := of_decide_eq_true hi
      obtain ⟨y1, st1, rfl, hw1⟩ := pJ_e hw
      obtain ⟨x1, st2, rfl, hw2⟩ := pJ_e hw1
      intro hc hs ad H locs ls hn had hal hL hl hP hD hS
      exact W.lcmp hx hb hd (ih _ _ _ _ _ _ ho hw2 hc hs ad H locs ls hn had hal hL hl hP hD hS)
    case fcmp op =>
      dsimp only [xop] at hw
      obtain rfl : len = 1 := of_decide_eq_true hi
      obtain ⟨y1, st1, rfl, hw1⟩ := pF_e hw
      obtain ⟨x1, st2, rfl, hw2⟩ := pF_e hw1
      intro hc hs ad H locs ls hn had hal hL hl hP hD hS
      exact lv_fcmp hx hb hd (ih _ _ _ _ _ _ ho hw2 hc hs ad H locs ls hn had hal hL hl hP hD hS)
    case dcmp op =>
      dsimp only [xop] at hw
      obtain rfl : len = 1 := of_decide_eq_true hi
      obtain ⟨y1, st1, rfl, hw1⟩ := pD_e hw
      obtain ⟨x1, st2, rfl, hw2⟩ := pD_e hw1
      intro hc hs ad H locs ls hn had hal hL hl hP hD hS
      exact lv_dcmp hx hb hd (ih _ _ _ _ _ _ ho hw2 hc hs ad H locs ls hn had hal hL hl hP hD hS)
    case i2l =>
      dsimp only [xop] at hw
      obtain rfl : len = 1 := of_decide_eq_true hi
      obtain ⟨x1, st1, rfl, hw1⟩ := pI_e hw
      intro hc hs ad H locs ls hn had hal hL hl hP hD hS
      exact lv_i2l hx hb hd rfl (ih _ _ _ _ _ _ ho hw1 hc hs ad H locs ls hn had hal hL hl hP hD hS)
    case i2f =>
      dsimp only [xop] at hw
      obtain rfl : len = 1 := of_decide_eq_true hi
      obtain ⟨x1, st1, rfl, hw1⟩ := pI_e hw
      intro hc hs ad H locs ls hn had hal hL hl hP hD hS
      exact lv_i2f hx hb hd (ih _ _ _ _ _ _ ho hw1 hc hs ad H locs ls hn had hal hL hl hP hD hS)
    case i2d =>
      dsimp only [xop] at hw
      obtain rfl : len = 1 := of_decide_eq_true hi
      obtain ⟨x1, st1, rfl, hw1⟩ := pI_e hw
      intro hc hs ad H locs ls hn had hal hL hl hP hD hS
      exact lv_i2d hx hb hd (ih _ _ _ _ _ _ ho hw1 hc hs ad H locs ls hn had hal hL hl hP hD hS)
    case i2c =>
      dsimp only [xop] at hw
      obtain rfl : len = 1 := of_decide_eq_true hi
      obtain ⟨x1, st1, rfl, hw1⟩ := pI_e hw
      intro hc hs ad H locs ls hn had hal hL hl hP hD hS
      exact lv_i2c hx hb hd rfl (ih _ _ _ _ _ _ ho hw1 hc hs ad H locs ls hn had hal hL hl hP hD hS)
    case l2d =>
      dsimp only [xop] at hw
      obtain rfl : len = 1 := of_decide_eq_true hi
      obtain ⟨x1, st1, rfl, hw1⟩ := pJ_e hw
      intro hc hs ad H locs ls hn had hal hL hl hP hD hS
      exact lv_l2d hx hb hd (ih _ _ _ _ _ _ ho hw1 hc hs ad H locs ls hn had hal hL hl hP hD hS)
    case d2l =>
      dsimp only [xop] at hw
      obtain rfl : len = 1 := of_decide_eq_true hi
      obtain ⟨x1, st1, rfl, hw1⟩ := pD_e hw
      intro hc hs ad H locs ls hn had hal hL hl hP hD hS
      exact lv_d2l hx hb hd (ih _ _ _ _ _ _ ho hw1 hc hs ad H locs ls hn had hal hL hl hP hD hS)
    case f2d =>
      dsimp only [xop] at hw
      obtain rfl : len = 1 := of_decide_eq_true hi
      obtain ⟨x1, st1, rfl, hne, hw1⟩ := pF_e hw
      intro hc hs ad H locs ls hn had hal hL hl hP hD hS
      exact lv_f2d hx hb hd hne (ih _ _ _ _ _ _ ho hw1 hc hs ad H locs ls hn had hal hL hl hP hD hS)
    case dsub =>
      dsimp only [xop] at hw
      obtain rfl : len = 1 := of_decide_eq_true hi
      obtain ⟨y1, st1, rfl, hw1⟩ := pD_e hw
      obtain ⟨x1, st2, rfl, hne, hw2⟩ := pD_e hw1
      intro hc hs ad H locs ls hn had hal hL hl hP hD hS
      exact lv_dsub hx hb hd hne (ih _ _ _ _ _ _ ho hw2 hc hs ad H locs ls hn had hal hL hl hP hD hS)
    case dmul =>
      dsimp only [xop] at hw
      obtain rfl : len = 1 := of_decide_eq_true hi
      obtain ⟨y1, st1, rfl, hw1⟩ := pD_e hw
      obtain ⟨x1, st2, rfl, hne, hw2⟩ := pD_e hw1
      intro hc hs ad H locs ls hn had hal hL hl hP hD hS
      exact lv_dmul hx hb hd hne (ih _ _ _ _ _ _ ho hw2 hc hs ad H locs ls hn had hal hL hl hP hD hS)
    case ddiv =>
      dsimp only [xop] at hw
      obtain rfl : len = 1 := of_decide_eq_true hi
      obtain ⟨y1, st1, rfl, hw1⟩ := pD_e hw
      obtain ⟨x1, st2, rfl, hne, hw2⟩ := pD_e hw1
      intro hc hs ad H locs ls hn had hal hL hl hP hD hS
      exact lv_ddiv hx hb hd hne (ih _ _ _ _ _ _ ho hw2 hc hs ad H locs ls hn had hal hL hl hP hD hS)
    case fdiv =>
      dsimp only [xop] at hw
      obtain rfl : len = 1 := of_decide_eq_true hi
      obtain ⟨y1, st1, rfl, hw1⟩ := pF_e hw
      obtain ⟨x1, st2, rfl, hne, hw2⟩ := pF_e hw1
      intro hc hs ad H locs ls hn had hal hL hl hP hD hS
      exact lv_fdiv hx hb hd hne (ih _ _ _ _ _ _ ho hw2 hc hs ad H locs ls hn had hal hL hl hP hD hS)
    case dup =>
      dsimp only [xop] at hw
      obtain rfl : len = 1 := of_decide_eq_true hi
      obtain ⟨x1, st1, rfl, hcat, hw1⟩ := p1_e hw
      intro hc hs ad H locs ls hn had hal hL hl hP hD hS
      exact lv_dup hx hb hd ((cv_cat ad x1).trans hcat) (ih _ _ _ _ _ _ ho hw1 hc hs ad H locs ls hn had hal hL hl hP hD hS)
    case pop =>
      dsimp only [xop] at hw
      obtain rfl : len = 1 := of_decide_eq_true hi
      obtain ⟨x1, st1, rfl, hcat, hw1⟩ := p1_e hw
      intro hc hs ad H locs ls hn had hal hL hl hP hD hS
      exact lv_pop hx hb hd ((cv_cat ad x1).trans hcat) (ih _ _ _ _ _ _ ho hw1 hc hs ad H locs ls hn had hal hL hl hP hD hS)
    case dup2 =>
      dsimp only [xop] at hw
      obtain rfl : len = 1 := of_decide_eq_true hi
      obtain ⟨x1, st1, rfl, hcat, hw1⟩ := p1_e hw
      obtain ⟨y1, st2, rfl, hcat2, hw2⟩ := p1_e hw1
      intro hc hs ad H locs ls hn had hal hL hl hP hD hS
      exact lv_dup2_11 hx hb hd ((cv_cat ad x1).trans hcat) ((cv_cat ad y1).trans hcat2) (ih _ _ _ _ _ _ ho hw2 hc hs ad H locs ls hn had hal hL hl hP hD hS)
    case goto off =>
      dsimp only [xop] at hw
      obtain ⟨hi1, hi2⟩ := x_and2 hi
      obtain rfl : len = 3 := of_decide_eq_true hi1
      obtain ⟨B, h1, h2⟩ := okA_e hi2
      intro hc hs ad H locs ls hn had hal hL hl hP hD hS
      exact lv_goto hx hb hd h2 (hK r1 B _ _ _ _ _ h1 hw hc hs ad H locs ls hn had hal hL hl hP hD hS)
    case ifCond op off =>
      dsimp only [xop] at hw
      obtain ⟨hi1, hi2⟩ := x_and2 hi
      obtain rfl : len = 3 := of_decide_eq_true hi1
      obtain ⟨B, h1, h2⟩ := okA_e hi2
      obtain ⟨x1, st1, rfl, hw1⟩ := pI_e hw
      cases op
      · obtain ⟨w1, w2⟩ := hw1
        intro hc hs ad H locs ls hn had hal hL hl hP hD hS
        exact lv_if_eq hx hb hd h2 (fun z => hK r1 B _ _ _ _ _ h1 (w1 z) hc hs ad H locs ls hn had hal hL hl hP hD hS) (fun z => ih _ _ _ _ _ _ ho (w2 z) hc hs ad H locs ls hn had hal hL hl hP hD hS)
      · obtain ⟨w1, w2⟩ := hw1
        intro hc hs ad H locs ls hn had hal hL hl hP hD hS
        exact lv_if_ne hx hb hd h2 (fun z => hK r1 B _ _ _ _ _ h1 (w1 z) hc hs ad H locs ls hn had hal hL hl hP hD hS) (fun z => ih _ _ _ _ _ _ ho (w2 z) hc hs ad H locs ls hn had hal hL hl hP hD hS)
      · obtain ⟨w1, w2⟩ := hw1
        intro hc hs ad H locs ls hn had hal hL hl hP hD hS
        exact lv_if_lt hx hb hd h2 (fun z => hK r1 B _ _ _ _ _ h1 (w1 z) hc hs ad H locs ls hn had hal hL hl hP hD hS) (fun z => ih _ _ _ _ _ _ ho (w2 z) hc hs ad H locs ls hn had hal hL hl hP hD hS)
      · obtain ⟨w1, w2⟩ := hw1
        intro hc hs ad H locs ls hn had hal hL hl hP hD hS
        exact lv_if_ge hx hb hd h2 (fun z => hK r1 B _ _ _ _ _ h1 (w1 z) hc hs ad H locs ls hn had hal hL hl hP hD hS) (fun z => ih _ _ _ _ _ _ ho (w2 z) hc hs ad H locs ls hn had hal hL hl hP hD hS)
      · obtain ⟨w1, w2⟩ := hw1
        intro hc hs ad H locs ls hn had hal hL hl hP hD hS
        exact lv_if_gt hx hb hd h2 (fun z => hK r1 B _ _ _ _ _ h1 (w1 z) hc hs ad H locs ls hn had hal hL hl hP hD hS) (fun z => ih _ _ _ _ _ _ ho (w2 z) hc hs ad H locs ls hn had hal hL hl hP hD hS)
      · obtain ⟨w1, w2⟩ := hw1
        intro hc hs ad H locs ls hn had hal hL hl hP hD hS
        exact lv_if_le hx hb hd h2 (fun z => hK r1 B _ _ _ _ _ h1 (w1 z) hc hs ad H locs ls hn had hal hL hl hP hD hS) (fun z => ih _ _ _ _ _ _ ho (w2 z) hc hs ad H locs ls hn had hal hL hl hP hD hS)
    case if_icmp op off =>
      dsimp only [xop] at hw
      obtain ⟨hi1, hi2⟩ := x_and2 hi
      obtain rfl : len = 3 := of_decide_eq_true hi1
      obtain ⟨B, h1, h2⟩ := okA_e hi2
      obtain ⟨y1, st1, rfl, hw1⟩ := pI_e hw
      obtain ⟨x1, st2, rfl, hw2⟩ := pI_e hw1
      cases op
      · obtain ⟨w1, w2⟩ := hw2
        intro hc hs ad H locs ls hn had hal hL hl hP hD hS
        exact lv_icmp_eq hx hb hd h2 (fun z => hK r1 B _ _ _ _ _ h1 (w1 z) hc hs ad H locs ls hn had hal hL hl hP hD hS) (fun z => ih _ _ _ _ _ _ ho (w2 z) hc hs ad H locs ls hn had hal hL hl hP hD hS)
      · obtain ⟨w1, w2⟩ := hw2
        intro hc hs ad H locs ls hn had hal hL hl hP hD hS
        exact lv_icmp_ne hx hb hd h2 (fun z => hK r1 B _ _ _ _ _ h1 (w1 z) hc hs ad H locs ls hn had hal hL hl hP hD hS) (fun z => ih _ _ _ _ _ _ ho (w2 z) hc hs ad H locs ls hn had hal hL hl hP hD hS)
      · obtain ⟨w1, w2⟩ := hw2
        intro hc hs ad H locs ls hn had hal hL hl hP hD hS
        exact lv_icmp_lt hx hb hd h2 (fun z => hK r1 B _ _ _ _ _ h1 (w1 z) hc hs ad H locs ls hn had hal hL hl hP hD hS) (fun z => ih _ _ _ _ _ _ ho (w2 z) hc hs ad H locs ls hn had hal hL hl hP hD hS)
      · obtain ⟨w1, w2⟩ := hw2
        intro hc hs ad H locs ls hn had hal hL hl hP hD hS
        exact lv_icmp_ge hx hb hd h2 (fun z => hK r1 B _ _ _ _ _ h1 (w1 z) hc hs ad H locs ls hn had hal hL hl hP hD hS) (fun z => ih _ _ _ _ _ _ ho (w2 z) hc hs ad H locs ls hn had hal hL hl hP hD hS)
      · obtain ⟨w1, w2⟩ := hw2
        intro hc hs ad H locs ls hn had hal hL hl hP hD hS
        exact lv_icmp_gt hx hb hd h2 (fun z => hK r1 B _ _ _ _ _ h1 (w1 z) hc hs ad H locs ls hn had hal hL hl hP hD hS) (fun z => ih _ _ _ _ _ _ ho (w2 z) hc hs ad H locs ls hn had hal hL hl hP hD hS)
      · obtain ⟨w1, w2⟩ := hw2
        intro hc hs ad H locs ls hn had hal hL hl hP hD hS
        exact lv_icmp_le hx hb hd h2 (fun z => hK r1 B _ _ _ _ _ h1 (w1 z) hc hs ad H locs ls hn had hal hL hl hP hD hS) (fun z => ih _ _ _ _ _ _ ho (w2 z) hc hs ad H locs ls hn had hal hL hl hP hD hS)
    case ifnonnull off =>
      dsimp only [xop] at hw
      obtain ⟨hi1, hi2⟩ := x_and2 hi
      obtain rfl : len = 3 := of_decide_eq_true hi1
      obtain ⟨B, h1, h2⟩ := okA_e hi2
      obtain ⟨x1, st1, rfl, hz, w1, w2⟩ := pA_e hw
      intro hc hs ad H locs ls hn had hal hL hl hP hD hS
      rcases hz with ⟨a, rfl⟩ | rfl
      · exact lv_ifnonnull hx hb hd h2 (hK r1 B _ _ _ _ _ h1 (w2 (fun z => by cases z)) hc hs ad H locs ls hn had hal hL hl hP hD hS)
      · exact lv_ifnonnullN hx hb hd (ih _ _ _ _ _ _ ho (w1 rfl) hc hs ad H locs ls hn had hal hL hl hP hD hS)
    case tableswitch dflt lo hi9 offs =>
      dsimp only [xop] at hw
      obtain ⟨hi, hi5⟩ := x_and2 hi
      obtain ⟨hi, hi4⟩ := x_and2 hi
      obtain ⟨hi1, hi2, hi3⟩ := x_and3 hi
      have hi1 := of_decide_eq_true hi1
      have hi2 := of_decide_eq_true hi2
      have hi3 := of_decide_eq_true hi3
      obtain ⟨x1, st1, rfl, hw1⟩ := pI_e hw
      intro hc hs ad H locs ls hn had hal hL hl hP hD hS
      rcases xsw_e hw1 with ⟨j, P, e1, e2, e3⟩ | ⟨e1, e2⟩
      · rw [List.getElem?_map] at e1
        cases hj : tb[j]? with
        | none => rw [hj] at e1; cases e1
        | some b =>
          rw [hj] at e1
          have e1 : K b L st1 h cs ss = P := Option.some.inj e1
          have hjl : j < tb.length := (List.getElem?_eq_some_iff.mp hj).1
          obtain ⟨off, o1, o2⟩ := okAs_e hi5 j b hj
          obtain ⟨B, h1, h2⟩ := okA_e o2
          have ht : x1.toInt = ((r2 + j : Nat) : Int) := by rw [e2]; exact nI_toInt (by omega)
          exact lv_tableIn hx hb hd (by omega) (by omega) (off := off) (by rw [← o1]; congr 1; omega) h2 (hK b B _ _ _ _ _ h1 (by rw [e1]; exact e3) hc hs ad H locs ls hn had hal hL hl hP hD hS)
      · obtain ⟨B, h1, h2⟩ := okA_e hi4
        refine lv_tableOut hx hb hd ?_ h2 (hK r1 B _ _ _ _ _ h1 e2 hc hs ad H locs ls hn had hal hL hl hP hD hS)
        rcases Classical.em (x1.toInt < lo ∨ hi9 < x1.toInt) with z | z
        · exact z
        · have z1 : ¬ x1.toInt < lo := fun q => z (Or.inl q)
          have z2 : ¬ hi9 < x1.toInt := fun q => z (Or.inr q)
          refine absurd (Int32.toInt_inj.mp ?_) (e1 (x1.toInt - lo).toNat (by rw [List.length_map]; omega))
          rw [nI_toInt (by omega)]
          omega
    case getstatic i =>
      dsimp only [xop] at hw
      obtain ⟨hi1, hi2⟩ := x_and2 hi
      obtain rfl : len = 3 := of_decide_eq_true hi1
      intro hc hs ad H locs ls hn had hal hL hl hP hD hS
      have e9 := had 1000 (Or.inr (Nat.le_refl _))
      refine va_gets hx hb hG.1 hS hown (hts _ (xlk_e hi2)) (fun _ h9 => h9) hd ?_
      rw [← e9]
      exact ih _ _ _ _ _ _ ho hw hc hs ad H locs ls hn had hal hL hl hP hD hS
    case getfield i =>
      dsimp only [xop] at hw
      obtain ⟨hi1, hi2⟩ := x_and2 hi
      obtain rfl : len = 3 := of_decide_eq_true hi1
      obtain ⟨a, st1, rfl, hw1⟩ := pR_e hw
      obtain ⟨l0, vs, he, hw2⟩ := xhv_e hw1
      cases hq : xCl[r1]? with
      | none => rw [hq] at hi2; cases hi2
      | some z =>
        rw [hq] at hi2
        obtain ⟨hk, hlk⟩ := x_and2 hi2
        have hk := of_decide_eq_true hk
        cases hv : vs[r2]? with
        | none => rw [hv] at hw2; exact hw2.elim
        | some x =>
          rw [hv] at hw2
          intro hc hs ad H locs ls hn had hal hL hl hP hD hS
          exact va_get (C := z.1) (T := z.2.1) (N := z.2.2) (ci := r1) (fs := vs.map (cv ad)) (v := cv ad x) hx hb hts (xcl_in r1 z hq) hown hK0 hP a (xw_at he) hq r2 hk (hts _ (xlk_e hlk)) (fun _ h9 => h9) (by rw [List.getElem?_map, hv]; rfl) hd (ih _ _ _ _ _ _ ho hw2 hc hs ad H locs ls hn had hal hL hl hP hD hS)
    case putfield i =>
      dsimp only [xop] at hw
      obtain ⟨hi1, hi2⟩ := x_and2 hi
      obtain rfl : len = 3 := of_decide_eq_true hi1
      obtain ⟨x, st0, rfl, hcat, hw1⟩ := p1_e hw
      obtain ⟨a, st1, rfl, hw2⟩ := pR_e hw1
      obtain ⟨l0, vs, he, hw3⟩ := xhv_e hw2
      split at hw3
      case h_2 => exact hw3.elim
      have hk2 : r2 < vs.length := (List.getElem?_eq_some_iff.mp (by assumption)).1
      cases hq : xCl[r1]? with
      | none => rw [hq] at hi2; cases hi2
      | some z =>
        rw [hq] at hi2
        obtain ⟨hi2, hfin⟩ := x_and2 hi2
        obtain ⟨hk, hlk, hty⟩ := x_and3 hi2
        have hk := of_decide_eq_true hk
        have hty := of_decide_eq_true hty
        intro hc hs ad H locs ls hn had hal hL hl hP hD hS
        rw [hty] at hw3
        obtain ⟨⟨n1, n2⟩, hw4⟩ := xfit_ok ad hw3
        have key : (xw cy ad h).set a (ad a, .inr (r1, (vs.map (cv ad)).set r2 (cv ad x))) = xw cy ad (h.set a (r1 + 5, [], vs.set r2 x)) := by rw [← List.map_set]; exact xw_set (q := (r1 + 5, [], vs.set r2 x))
        have hh : h.length = (h.set a (r1 + 5, [], vs.set r2 x)).length := List.length_set.symm
        cases hf9 : (z.2.1 r2).2.2.2 with
        | false =>
          exact va_put (C := z.1) (T := z.2.1) (N := z.2.2) (ci := r1) (fs := vs.map (cv ad)) (v := cv ad x) hx hb hts (xcl_in r1 z hq) (xTy r1) (xcl_ty r1 z hq) (xcl_nm r1 z hq) hown hK0 hP hD hS a (xw_at he) hq r2 hk (hts _ (xlk_e hlk)) (fun _ h9 => h9) hf9 (xcl_ty r1 z hq r2 hk) n1 n2 (by rw [List.length_map]; exact hk2) hd (fun H1 locs1 hP1 hD1 hS1 => by rw [key] at hP1 hD1; exact ih _ _ _ _ _ _ ho hw4 hc hs ad H1 locs1 ls (by rw [← hh]; exact hn) had hal hL hl hP1 hD1 hS1)
        | true =>
          rw [hf9] at hfin
          obtain ⟨f1, f2⟩ := x_and2 (show (decide (y.name = "<init>") && decide ((z.2.1 r2).1 = y.cls)) = true from hfin)
          exact va_putF (C := z.1) (T := z.2.1) (N := z.2.2) (ci := r1) (fs := vs.map (cv ad)) (v := cv ad x) hx hb hts (xcl_in r1 z hq) (xTy r1) (xcl_ty r1 z hq) (xcl_nm r1 z hq) hown hK0 hP hD hS a (xw_at he) hq r2 hk (hts _ (xlk_e hlk)) (fun _ h9 => h9) hf9 (hnm.trans (of_decide_eq_true f1)) (of_decide_eq_true f2) (xcl_ty r1 z hq r2 hk) n1 n2 (by rw [List.length_map]; exact hk2) hd (fun H1 locs1 hP1 hD1 hS1 => by rw [key] at hP1 hD1; exact ih _ _ _ _ _ _ ho hw4 hc hs ad H1 locs1 ls (by rw [← hh]; exact hn) had hal hL hl hP1 hD1 hS1)
    case iaload =>
      dsimp only [xop] at hw
      obtain rfl : len = 1 := of_decide_eq_true hi
      obtain ⟨i, st1, rfl, hw1⟩ := pI_e hw
      obtain ⟨a, st2, rfl, hw2⟩ := pR_e hw1
      intro hc hs ad H locs ls hn had hal hL hl hP hD hS
      unfold xai at hw2
      cases ea : a == 1000 with
      | true =>
        rw [ea] at hw2
        have ea := beq_iff_eq.mp ea
        subst ea
        have e9 := had 1000 (Or.inr (Nat.le_refl _))
        obtain ⟨hin, hw3⟩ := hw2
        have hT9 := hG.2.1
        rw [← e9] at hT9
        exact va_ti hx hb hT9 hS hin rfl hd (ih _ _ _ _ _ _ ho hw3 hc hs ad H locs ls hn had hal hL hl hP hD hS)
      | false =>
        rw [ea] at hw2
        cases eb : a == 1001 with
        | true =>
          rw [eb] at hw2
          have eb := beq_iff_eq.mp eb
          subst eb
          have e9 := had 1001 (Or.inr (by decide))
          cases hsc9 : sc with
          | none => rw [hsc9] at hw2; exact hw2.elim
          | some lst =>
            rw [hsc9] at hw2
            obtain ⟨hin, hw3⟩ := hw2
            obtain ⟨x1, x2, x3⟩ := hsc lst hsc9
            rw [← e9] at x1 x2 x3
            exact va_sld hx hb x1 x2 x3 hS hin hd (ih _ _ _ _ _ _ ho hw3 hc hs ad H locs ls hn had hal hL hl hP hD hS)
        | false =>
          rw [eb] at hw2
          dsimp only [cond_false] at hw2
          obtain ⟨l0, vs, he, hin, hw3⟩ := xhi_e hw2
          exact va_iald hx hb hK0 hP a 0 (xw_at he) rfl hin hd (ih _ _ _ _ _ _ ho hw3 hc hs ad H locs ls hn had hal hL hl hP hD hS)
    case caload =>
      dsimp only [xop] at hw
      obtain rfl : len = 1 := of_decide_eq_true hi
      obtain ⟨i, st1, rfl, hw1⟩ := pI_e hw
      obtain ⟨a, st2, rfl, hw2⟩ := pR_e hw1
      obtain ⟨l0, vs, he, hin, hw3⟩ := xhi_e hw2
      intro hc hs ad H locs ls hn had hal hL hl hP hD hS
      exact va_cald hx hb hK0 hP a 1 (xw_at he) rfl hin hd (ih _ _ _ _ _ _ ho hw3 hc hs ad H locs ls hn had hal hL hl hP hD hS)
    case baload =>
      dsimp only [xop] at hw
      obtain rfl : len = 1 := of_decide_eq_true hi
      obtain ⟨i, st1, rfl, hw1⟩ := pI_e hw
      obtain ⟨a, st2, rfl, hw2⟩ := pR_e hw1
      obtain ⟨l0, vs, he, hin, hw3⟩ := xhi_e hw2
      intro hc hs ad H locs ls hn had hal hL hl hP hD hS
      exact va_zald hx hb hK0 hP a 2 (xw_at he) rfl hin hd (ih _ _ _ _ _ _ ho hw3 hc hs ad H locs ls hn had hal hL hl hP hD hS)
    case aaload =>
      dsimp only [xop] at hw
      obtain rfl : len = 1 := of_decide_eq_true hi
      obtain ⟨i, st1, rfl, hw1⟩ := pI_e hw
      obtain ⟨a, st2, rfl, hw2⟩ := pR_e hw1
      obtain ⟨l0, vs, he, hin, hw3⟩ := xhv_e hw2
      intro hc hs ad H locs ls hn had hal hL hl hP hD hS
      have ev : cv ad (xrf (vs.getD i.toNatClampNeg .null)) = va_rf (xopt ad (vs.getD i.toNatClampNeg .null)) := by cases vs.getD i.toNatClampNeg .null <;> rfl
      have go := ih _ _ _ _ _ _ ho hw3 hc hs ad H locs ls hn had hal hL hl hP hD hS
      rw [List.map_cons, ev] at go
      exact va_aldq hx hb hK0 hP a 4 (C := RX2) (xw_at he) rfl hin hd go
    case iastore =>
      dsimp only [xop] at hw
      obtain rfl : len = 1 := of_decide_eq_true hi
      obtain ⟨x, st0, rfl, hw1⟩ := pI_e hw
      obtain ⟨i, st1, rfl, hw2⟩ := pI_e hw1
      obtain ⟨a, st2, rfl, hw3⟩ := pR_e hw2
      obtain ⟨l0, vs, he, hin, hw4⟩ := xhi_e hw3
      intro hc hs ad H locs ls hn had hal hL hl hP hD hS
      have hlt : i.toNatClampNeg < l0.length := Nat.not_le.mp fun q => hin (Or.inr q)
      have key : (xw cy ad h).set a (ad a, .inl (cy 0, l0.length, .inl (upd (fun j => l0.getD j 0) i.toNatClampNeg x))) = xw cy ad (h.set a (0, l0.set i.toNatClampNeg x, [])) := by
        rw [xset_eq hlt, ← xw_set (q := (0, l0.set i.toNatClampNeg x, []))]
        show _ = (xw cy ad h).set a (ad a, .inl (cy 0, (l0.set i.toNatClampNeg x).length, .inl _))
        rw [List.length_set]
      have hh : h.length = (h.set a (0, l0.set i.toNatClampNeg x, [])).length := List.length_set.symm
      exact va_iast hx hb hK0 hP hD hS a 0 (xw_at he) rfl hin hd (fun H1 locs1 hP1 hD1 hS1 => by rw [key] at hP1 hD1; exact ih _ _ _ _ _ _ ho hw4 hc hs ad H1 locs1 ls (by rw [← hh]; exact hn) had hal hL hl hP1 hD1 hS1)
    case castore =>
      dsimp only [xop] at hw
      obtain rfl : len = 1 := of_decide_eq_true hi
      obtain ⟨x, st0, rfl, hw1⟩ := pI_e hw
      obtain ⟨i, st1, rfl, hw2⟩ := pI_e hw1
      obtain ⟨a, st2, rfl, hw3⟩ := pR_e hw2
      obtain ⟨l0, vs, he, hin, hw4⟩ := xhi_e hw3
      intro hc hs ad H locs ls hn had hal hL hl hP hD hS
      have hlt : i.toNatClampNeg < l0.length := Nat.not_le.mp fun q => hin (Or.inr q)
      have key : (xw cy ad h).set a (ad a, .inl (cy 1, l0.length, .inl (upd (fun j => l0.getD j 0) i.toNatClampNeg (vp_nar .char x)))) = xw cy ad (h.set a (1, l0.set i.toNatClampNeg (vp_nar .char x), [])) := by
        rw [xset_eq hlt, ← xw_set (q := (1, l0.set i.toNatClampNeg (vp_nar .char x), []))]
        show _ = (xw cy ad h).set a (ad a, .inl (cy 1, (l0.set i.toNatClampNeg (vp_nar .char x)).length, .inl _))
        rw [List.length_set]
      have hh : h.length = (h.set a (1, l0.set i.toNatClampNeg (vp_nar .char x), [])).length := List.length_set.symm
      exact va_cast hx hb hK0 hP hD hS a 1 (xw_at he) rfl hin hd (fun H1 locs1 hP1 hD1 hS1 => by rw [key] at hP1 hD1; exact ih _ _ _ _ _ _ ho hw4 hc hs ad H1 locs1 ls (by rw [← hh]; exact hn) had hal hL hl hP1 hD1 hS1)
    case bastore =>
      dsimp only [xop] at hw
      obtain rfl : len = 1 := of_decide_eq_true hi
      obtain ⟨x, st0, rfl, hw1⟩ := pI_e hw
      obtain ⟨i, st1, rfl, hw2⟩ := pI_e hw1
      obtain ⟨a, st2, rfl, hw3⟩ := pR_e hw2
      obtain ⟨l0, vs, he, hin, hw4⟩ := xhi_e hw3
      intro hc hs ad H locs ls hn had hal hL hl hP hD hS
      have hlt : i.toNatClampNeg < l0.length := Nat.not_le.mp fun q => hin (Or.inr q)
      have key : (xw cy ad h).set a (ad a, .inl (cy 2, l0.length, .inl (upd (fun j => l0.getD j 0) i.toNatClampNeg (vp_nar .boolean x)))) = xw cy ad (h.set a (2, l0.set i.toNatClampNeg (vp_nar .boolean x), [])) := by
        rw [xset_eq hlt, ← xw_set (q := (2, l0.set i.toNatClampNeg (vp_nar .boolean x), []))]
        show _ = (xw cy ad h).set a (ad a, .inl (cy 2, (l0.set i.toNatClampNeg (vp_nar .boolean x)).length, .inl _))
        rw [List.length_set]
      have hh : h.length = (h.set a (2, l0.set i.toNatClampNeg (vp_nar .boolean x), [])).length := List.length_set.symm
      exact va_zast hx hb hK0 hP hD hS a 2 (xw_at he) rfl hin hd (fun H1 locs1 hP1 hD1 hS1 => by rw [key] at hP1 hD1; exact ih _ _ _ _ _ _ ho hw4 hc hs ad H1 locs1 ls (by rw [← hh]; exact hn) had hal hL hl hP1 hD1 hS1)
    case aastore =>
      dsimp only [xop] at hw
      obtain rfl : len = 1 := of_decide_eq_true hi
      obtain ⟨x, st0, rfl, hw1⟩ := pR_e hw
      obtain ⟨i, st1, rfl, hw2⟩ := pI_e hw1
      obtain ⟨a, st2, rfl, hw3⟩ := pR_e hw2
      obtain ⟨l0, vs, he, hw4⟩ := xhv_e hw3
      obtain ⟨l1, vs1, he1, hin, hw5⟩ := xhv_e hw4
      intro hc hs ad H locs ls hn had hal hL hl hP hD hS
      have hlt : i.toNatClampNeg < vs.length := Nat.not_le.mp fun q => hin (Or.inr q)
      have kf : va_up (fun j => xopt ad (vs.getD j .null)) i.toNatClampNeg (some (ad x)) = fun j => xopt ad ((vs.set i.toNatClampNeg (.ref x)).getD j .null) := by
        funext j
        simp only [va_up, List.getD_eq_getElem?_getD, List.getElem?_set]
        by_cases e : j = i.toNatClampNeg
        · rw [if_pos e, if_pos e.symm, if_pos (by omega)]; rfl
        · rw [if_neg e, if_neg (Ne.symm e)]
      have key : (xw cy ad h).set a (ad a, .inl (cy 4, vs.length, .inr (.inr (.inr (.inr (va_up (fun j => xopt ad (vs.getD j .null)) i.toNatClampNeg (some (ad x)))))))) = xw cy ad (h.set a (4, [], vs.set i.toNatClampNeg (.ref x))) := by
        rw [kf, ← xw_set (q := (4, [], vs.set i.toNatClampNeg (.ref x)))]
        show _ = (xw cy ad h).set a (ad a, .inl (cy 4, (vs.set i.toNatClampNeg (.ref x)).length, .inr (.inr (.inr (.inr _)))))
        rw [List.length_set]
      have hh : h.length = (h.set a (4, [], vs.set i.toNatClampNeg (.ref x))).length := List.length_set.symm
      exact va_astq hx hb hK0 hP hD hS a 4 x 0 (r := (RX2, TX2, 7)) (xw_at he) rfl (xw_at he1) rfl hin hd (fun H1 locs1 hP1 hD1 hS1 => by rw [key] at hP1 hD1; exact ih _ _ _ _ _ _ ho hw5 hc hs ad H1 locs1 ls (by rw [← hh]; exact hn) had hal hL hl hP1 hD1 hS1)
    case arraylength =>
      dsimp only [xop] at hw
      obtain rfl : len = 1 := of_decide_eq_true hi
      obtain ⟨a, st1, rfl, hw1⟩ := pR_e hw
      intro hc hs ad H locs ls hn had hal hL hl hP hD hS
      unfold xal at hw1
      cases eb : a == 1001 with
      | true =>
        rw [eb] at hw1
        have eb := beq_iff_eq.mp eb
        subst eb
        have e9 := had 1001 (Or.inr (by decide))
        cases hsc9 : sc with
        | none => rw [hsc9] at hw1; exact hw1.elim
        | some lst =>
          rw [hsc9] at hw1
          obtain ⟨x1, x2, x3⟩ := hsc lst hsc9
          rw [← e9] at x1 x2 x3
          exact va_slen hx hb x1 x2 x3 hS hd (ih _ _ _ _ _ _ ho hw1 hc hs ad H locs ls hn had hal hL hl hP hD hS)
      | false =>
        rw [eb] at hw1
        have hw2 : (match h[a]? with | some (0, l, _) => _ | some (1, l, _) => _ | some (2, l, _) => _ | some (4, _, l) => _ | _ => False) := hw1
        split at hw2
        · rename_i he; exact va_alen hx hb hK0 hP a 0 (xw_at he) rfl rfl hd (ih _ _ _ _ _ _ ho hw2 hc hs ad H locs ls hn had hal hL hl hP hD hS)
        · rename_i he; exact va_alen hx hb hK0 hP a 1 (xw_at he) rfl rfl hd (ih _ _ _ _ _ _ ho hw2 hc hs ad H locs ls hn had hal hL hl hP hD hS)
        · rename_i he; exact va_alen hx hb hK0 hP a 2 (xw_at he) rfl rfl hd (ih _ _ _ _ _ _ ho hw2 hc hs ad H locs ls hn had hal hL hl hP hD hS)
        · rename_i he; exact va_alen hx hb hK0 hP a 4 (xw_at he) rfl rfl hd (ih _ _ _ _ _ _ ho hw2 hc hs ad H locs ls hn had hal hL hl hP hD hS)
        · exact hw2.elim
    case newarray t =>
      dsimp only [xop] at hw
      obtain ⟨hi1, hi2⟩ := x_and2 hi
      obtain rfl : len = 2 := of_decide_eq_true hi1
      obtain ⟨n, st1, rfl, hn0, hn1, hal1, hc1, hs1, hlt1, hwL, hwS, hwH, hw1⟩ := pI_e hw
      intro hc hs ad H locs ls hn had hal hL hl hP hD hS
      have hst : st1.map (cv ad) = st1.map (cv ad) := rfl
      cases t <;> try exact hw1.elim
      case boolean =>
        have kf : (fun j => (List.replicate n.toNatClampNeg (0 : Int32)).getD j 0) = fun _ => 0 := by
          funext j
          rw [List.getD_eq_getElem?_getD, List.getElem?_replicate]
          split <;> rfl
        have ez : xe cy ad (2, List.replicate n.toNatClampNeg 0, []) = .inl (cy 2, n.toNatClampNeg, .inl (fun _ => 0)) := by
          show (.inl (cy 2, (List.replicate n.toNatClampNeg (0 : Int32)).length, .inl (fun j => (List.replicate n.toNatClampNeg (0 : Int32)).getD j 0)) : va_E) = _
          rw [kf, List.length_replicate]
        have ez2 : xe cy (va_up ad h.length 0) (2, List.replicate n.toNatClampNeg 0, []) = xe cy ad (2, List.replicate n.toNatClampNeg 0, []) := rfl
        refine va_newa (atype := .boolean) (ty := .boolean) (a0 := (n.toNatClampNeg, .inl (fun _ => 0))) hx hb (hw_ _ hi2) rfl hK0 hP hD hS hA (fun cA => rfl) hn0 rfl (Nat.le_trans (Nat.mul_le_mul hn1 (by decide : componentBytes .boolean ≤ 8)) (by decide)) (Nat.le_trans hc1 hmc) (Nat.le_trans hs1 hms) hd ?_
        intro q9 cA H1 hK1 hP1 hD1 hS1
        have ecA : cA = cy 2 := Option.some.inj ((hK1.2 5 _ rfl).2.symm.trans (hK0.2 2 _ rfl).2)
        rw [ecA, ← ez] at hP1 hD1
        have go := ih _ _ _ _ _ _ ho hw1 hc1 hs1 (va_up ad h.length q9) H1 locs ls (by rw [List.length_append]; exact Nat.le_trans hn (Nat.le_add_right _ _)) (fun i hi => (x_up hlt1 i (hi.elim (fun q => Or.inl (Nat.lt_of_lt_of_le q hn)) Or.inr)).trans (had i hi)) (fun z => by rw [hal1] at z; cases z) hL (xwL_eq (x_up hlt1) hwL hl) (by rw [xw_new hlt1 hwH rfl]; exact hP1) (by rw [xw_new hlt1 hwH rfl]; exact hD1) hS1
        rw [List.map_cons, xwS_eq (x_up hlt1) hwS] at go
        rw [show cv (va_up ad h.length q9) (.ref h.length) = .ref q9 from congrArg Value.ref (va_up_self _ _ _)] at go
        exact go
      case char =>
        have kf : (fun j => (List.replicate n.toNatClampNeg (0 : Int32)).getD j 0) = fun _ => 0 := by
          funext j
          rw [List.getD_eq_getElem?_getD, List.getElem?_replicate]
          split <;> rfl
        have ez : xe cy ad (1, List.replicate n.toNatClampNeg 0, []) = .inl (cy 1, n.toNatClampNeg, .inl (fun _ => 0)) := by
          show (.inl (cy 1, (List.replicate n.toNatClampNeg (0 : Int32)).length, .inl (fun j => (List.replicate n.toNatClampNeg (0 : Int32)).getD j 0)) : va_E) = _
          rw [kf, List.length_replicate]
        have ez2 : xe cy (va_up ad h.length 0) (1, List.replicate n.toNatClampNeg 0, []) = xe cy ad (1, List.replicate n.toNatClampNeg 0, []) := rfl
        refine va_newa (atype := .char) (ty := .char) (a0 := (n.toNatClampNeg, .inl (fun _ => 0))) hx hb (hw_ _ hi2) rfl hK0 hP hD hS hA (fun cA => rfl) hn0 rfl (Nat.le_trans (Nat.mul_le_mul hn1 (by decide : componentBytes .char ≤ 8)) (by decide)) (Nat.le_trans hc1 hmc) (Nat.le_trans hs1 hms) hd ?_
        intro q9 cA H1 hK1 hP1 hD1 hS1
        have ecA : cA = cy 1 := Option.some.inj ((hK1.2 5 _ rfl).2.symm.trans (hK0.2 1 _ rfl).2)
        rw [ecA, ← ez] at hP1 hD1
        have go := ih _ _ _ _ _ _ ho hw1 hc1 hs1 (va_up ad h.length q9) H1 locs ls (by rw [List.length_append]; exact Nat.le_trans hn (Nat.le_add_right _ _)) (fun i hi => (x_up hlt1 i (hi.elim (fun q => Or.inl (Nat.lt_of_lt_of_le q hn)) Or.inr)).trans (had i hi)) (fun z => by rw [hal1] at z; cases z) hL (xwL_eq (x_up hlt1) hwL hl) (by rw [xw_new hlt1 hwH rfl]; exact hP1) (by rw [xw_new hlt1 hwH rfl]; exact hD1) hS1
        rw [List.map_cons, xwS_eq (x_up hlt1) hwS] at go
        rw [show cv (va_up ad h.length q9) (.ref h.length) = .ref q9 from congrArg Value.ref (va_up_self _ _ _)] at go
        exact go
      case int =>
        have kf : (fun j => (List.replicate n.toNatClampNeg (0 : Int32)).getD j 0) = fun _ => 0 := by
          funext j
          rw [List.getD_eq_getElem?_getD, List.getElem?_replicate]
          split <;> rfl
        have ez : xe cy ad (0, List.replicate n.toNatClampNeg 0, []) = .inl (cy 0, n.toNatClampNeg, .inl (fun _ => 0)) := by
          show (.inl (cy 0, (List.replicate n.toNatClampNeg (0 : Int32)).length, .inl (fun j => (List.replicate n.toNatClampNeg (0 : Int32)).getD j 0)) : va_E) = _
          rw [kf, List.length_replicate]
        have ez2 : xe cy (va_up ad h.length 0) (0, List.replicate n.toNatClampNeg 0, []) = xe cy ad (0, List.replicate n.toNatClampNeg 0, []) := rfl
        refine va_newa (atype := .int) (ty := .int) (a0 := (n.toNatClampNeg, .inl (fun _ => 0))) hx hb (hw_ _ hi2) rfl hK0 hP hD hS hA (fun cA => rfl) hn0 rfl (Nat.le_trans (Nat.mul_le_mul hn1 (by decide : componentBytes .int ≤ 8)) (by decide)) (Nat.le_trans hc1 hmc) (Nat.le_trans hs1 hms) hd ?_
        intro q9 cA H1 hK1 hP1 hD1 hS1
        have ecA : cA = cy 0 := Option.some.inj ((hK1.2 5 _ rfl).2.symm.trans (hK0.2 0 _ rfl).2)
        rw [ecA, ← ez] at hP1 hD1
        have go := ih _ _ _ _ _ _ ho hw1 hc1 hs1 (va_up ad h.length q9) H1 locs ls (by rw [List.length_append]; exact Nat.le_trans hn (Nat.le_add_right _ _)) (fun i hi => (x_up hlt1 i (hi.elim (fun q => Or.inl (Nat.lt_of_lt_of_le q hn)) Or.inr)).trans (had i hi)) (fun z => by rw [hal1] at z; cases z) hL (xwL_eq (x_up hlt1) hwL hl) (by rw [xw_new hlt1 hwH rfl]; exact hP1) (by rw [xw_new hlt1 hwH rfl]; exact hD1) hS1
        rw [List.map_cons, xwS_eq (x_up hlt1) hwS] at go
        rw [show cv (va_up ad h.length q9) (.ref h.length) = .ref q9 from congrArg Value.ref (va_up_self _ _ _)] at go
        exact go
    case anewarray i =>
      dsimp only [xop] at hw
      obtain ⟨hi1, hi2⟩ := x_and2 hi
      obtain rfl : len = 3 := of_decide_eq_true hi1
      obtain ⟨n, st1, rfl, hn0, hn1, hal1, hc1, hs1, hlt1, hwL, hwS, hwH, hw1⟩ := pI_e hw
      intro hc hs ad H locs ls hn had hal hL hl hP hD hS
      have ez : ∀ ad9 : Nat → Nat, xe cy ad9 (4, [], List.replicate n.toNatClampNeg .null) = .inl (cy 4, n.toNatClampNeg, .inr (.inr (.inr (.inr (fun _ => none))))) := by
        intro ad9
        have kf : (fun j => xopt ad9 ((List.replicate n.toNatClampNeg Value.null).getD j .null)) = fun _ => none := by
          funext j
          rw [List.getD_eq_getElem?_getD, List.getElem?_replicate]
          split <;> rfl
        show (.inl (cy 4, (List.replicate n.toNatClampNeg Value.null).length, .inr (.inr (.inr (.inr (fun j => xopt ad9 ((List.replicate n.toNatClampNeg Value.null).getD j .null)))))) : va_E) = _
        rw [kf, List.length_replicate]
      refine va_newq (C := RX2) hx hb hown (hw_ _ hi2) hG.2.2.2.2.2.2.1 hK0 hP hD hS hA hn0 rfl (by omega) (Nat.le_trans hc1 hmc) (Nat.le_trans hs1 hms) hd ?_
      intro q9 cA H1 hK1 hP1 hD1 hS1
      have ecA : cA = cy 4 := x_ra (hK1.2 5 _ rfl).2 (hK0.2 4 _ rfl).2
      rw [ecA, ← ez ad] at hP1 hD1
      have go := ih _ _ _ _ _ _ ho hw1 hc1 hs1 (va_up ad h.length q9) H1 locs ls (by rw [List.length_append]; exact Nat.le_trans hn (Nat.le_add_right _ _)) (fun i hi => (x_up hlt1 i (hi.elim (fun q => Or.inl (Nat.lt_of_lt_of_le q hn)) Or.inr)).trans (had i hi)) (fun z => by rw [hal1] at z; cases z) hL (xwL_eq (x_up hlt1) hwL hl) (by rw [xw_new hlt1 hwH ((ez _).trans (ez _).symm)]; exact hP1) (by rw [xw_new hlt1 hwH ((ez _).trans (ez _).symm)]; exact hD1) hS1
      rw [List.map_cons, xwS_eq (x_up hlt1) hwS] at go
      rw [show cv (va_up ad h.length q9) (.ref h.length) = .ref q9 from congrArg Value.ref (va_up_self _ _ _)] at go
      exact go
    case new i =>
      dsimp only [xop] at hw
      obtain ⟨hi1, hi2⟩ := x_and2 hi
      obtain rfl : len = 3 := of_decide_eq_true hi1
      cases hr3 : xnew r1 with
      | true =>
        rw [hr3] at hw hi2
        have ho : (bif xnew r1 then okEs T KT y cc bl nx (pc + 3) es else true) = true := ho
        rw [hr3] at ho
        obtain ⟨hal1, hc1, hs1, hlt1, hwL, hwS, hwH, hw5⟩ := hw
        cases hq : xCl[r1]? with
        | none => rw [hq] at hi2; cases hi2
        | some z =>
          rw [hq] at hi2
          obtain ⟨k1, k2, k3⟩ := x_and3 hi2
          obtain ⟨f1, f2⟩ := xcl_def r1 z hq
          intro hc hs ad H locs ls hn had hal hL hl hP hD hS
          have ez : ∀ ad9 : Nat → Nat, xe cy ad9 (r1 + 5, [], xdef r1) = .inr (r1, xdef r1) := fun ad9 => congrArg (fun w => (.inr (r1, w) : va_E)) (xdef_map ad9 r1)
          rw [f1] at hs1
          refine va_new (C := z.1) (T := z.2.1) (N := z.2.2) (ci := r1) (fs := xdef r1) hx hb hts (xcl_in r1 z hq) (xTy r1) (xcl_ty r1 z hq) hown (hw_ _ k1) (hw_ _ k2) (hw_ _ k3) hK0 hP hD hS hA hq f2 (Nat.le_trans hc1 hmc) (Nat.le_trans hs1 hms) hd ?_
          intro q9 H1 hP1 hD1 hS1
          rw [← ez ad] at hP1 hD1
          rw [f1] at hw5
          have go := ih _ _ _ _ _ _ ho hw5 hc1 hs1 (va_up ad h.length q9) H1 locs ls (by rw [List.length_append]; exact Nat.le_trans hn (Nat.le_add_right _ _)) (fun i hi => (x_up hlt1 i (hi.elim (fun q => Or.inl (Nat.lt_of_lt_of_le q hn)) Or.inr)).trans (had i hi)) (fun z => by rw [hal1] at z; cases z) hL (xwL_eq (x_up hlt1) hwL hl) (by rw [xw_new hlt1 hwH ((ez _).trans (ez _).symm)]; exact hP1) (by rw [xw_new hlt1 hwH ((ez _).trans (ez _).symm)]; exact hD1) hS1
          rw [List.map_cons, xwS_eq (x_up hlt1) hwS] at go
          rw [show cv (va_up ad h.length q9) (.ref h.length) = .ref q9 from congrArg Value.ref (va_up_self _ _ _)] at go
          exact go
      | false =>
        rw [hr3] at hw hi2
        obtain ⟨w1, w2, w3, w4⟩ := xsm_e2 hw
        exact hThr i pc r1 es h cs ss L st hd hi2 w1 w2 w3 w4
    case invokestatic i =>
      dsimp only [xop] at hw
      obtain ⟨hi1, hi2⟩ := x_and2 hi
      obtain rfl : len = 3 := of_decide_eq_true hi1
      cases e1 : r1 == 900 with
      | true =>
        rw [e1] at hw hi2
        obtain ⟨n, st1, rfl, w1⟩ := pI_e hw
        obtain ⟨dp, st2, rfl, w2⟩ := pI_e w1
        obtain ⟨b, st3, rfl, w3⟩ := pR_e w2
        obtain ⟨sp, st4, rfl, w4⟩ := pI_e w3
        obtain ⟨a, st5, rfl, w5⟩ := pR_e w4
        obtain ⟨hsm, w5⟩ := xsm_e2 w5
        obtain ⟨f, v1, he1, w6⟩ := xhi_e w5
        obtain ⟨g, v2, he2, g1, g2, g3, g4, g5, w7⟩ := xhi_e w6
        obtain ⟨hi3, k4⟩ := x_and2 hi2
        obtain ⟨k1, k2, k3⟩ := x_and3 hi3
        intro hc hs ad H locs ls hn had hal hL hl hP hD hS
        have key : (xw cy ad h).set b (ad b, .inl (cy 0, g.length, .inl (va_cpy (fun j => f.getD j 0) (fun j => g.getD j 0) sp.toNatClampNeg dp.toNatClampNeg n.toNatClampNeg))) = xw cy ad (h.set b (0, xcpy f g sp.toNatClampNeg dp.toNatClampNeg n.toNatClampNeg, [])) := by
          rw [xcpy_eq g4 g5, ← xw_set (q := (0, xcpy f g sp.toNatClampNeg dp.toNatClampNeg n.toNatClampNeg, []))]
          show _ = (xw cy ad h).set b (ad b, .inl (cy 0, (xcpy f g sp.toNatClampNeg dp.toNatClampNeg n.toNatClampNeg).length, .inl _))
          rw [xcpy_len g4 g5]
        have hh : h.length = (h.set b (0, xcpy f g sp.toNatClampNeg dp.toNatClampNeg n.toNatClampNeg, [])).length := List.length_set.symm
        have hnw : nativeFrameWords "java/lang/System" "arraycopy" 5 ≤ 100 := by decide
        exact va_copyi hx hb (hml.trans hl.1.symm) hown (hw_ _ k1) (hw_ _ k2) (hw_ _ k3) (hw_ _ k4) hK0 hP hD hS a b 0 0 (xw_at he1) (xw_at he2) rfl rfl rfl g1 g2 g3 g4 g5 (fun _ _ => rfl) (Nat.le_trans (by omega) hR.1) (by have z1 := (xsm_e hsm ad).2; have z2 := hR.2; omega) hd (fun H1 locs1 hP1 hD1 hS1 => by rw [key] at hP1 hD1; exact ih _ _ _ _ _ _ ho w7 hc hs ad H1 locs1 ls (by rw [← hh]; exact hn) had hal hL hl hP1 hD1 hS1)
      | false =>
        rw [e1] at hw hi2
        cases e2 : r1 == 904 with
        | true =>
          rw [e2] at hw hi2
          obtain ⟨x, st1, rfl, w1⟩ := pD_e hw
          obtain ⟨hsm, w1⟩ := xsm_e2 w1
          obtain ⟨hi3, k4⟩ := x_and2 hi2
          obtain ⟨k1, k2, k3⟩ := x_and3 hi3
          intro hc hs ad H locs ls hn had hal hL hl hP hD hS
          exact vn_d2l hx hb (hml.trans hl.1.symm) hown (hw_ _ k1) (hw_ _ k2) (hw_ _ k3) (hw_ _ k4) (Nat.le_trans (by omega) hR.1) (by have z1 := (xsm_e hsm ad).2; have z2 := hR.2; omega) hd (ih _ _ _ _ _ _ ho w1 hc hs ad H locs ls hn had hal hL hl hP hD hS)
        | false =>
          rw [e2] at hw hi2
          cases e3 : r1 == 905 with
          | true =>
            rw [e3] at hw hi2
            obtain ⟨x, st1, rfl, w1⟩ := pF_e hw
            obtain ⟨hsm, w1⟩ := xsm_e2 w1
            obtain ⟨hi3, k4⟩ := x_and2 hi2
            obtain ⟨k1, k2, k3⟩ := x_and3 hi3
            intro hc hs ad H locs ls hn had hal hL hl hP hD hS
            exact vn_f2i hx hb (hml.trans hl.1.symm) hown (hw_ _ k1) (hw_ _ k2) (hw_ _ k3) (hw_ _ k4) (Nat.le_trans (by omega) hR.1) (by have z1 := (xsm_e hsm ad).2; have z2 := hR.2; omega) hd (ih _ _ _ _ _ _ ho w1 hc hs ad H locs ls hn had hal hL hl hP hD hS)
          | false =>
            rw [e3] at hw hi2
            obtain ⟨as, st1, rfl, hn9, w1⟩ := xpop_e hw
            rw [List.append_nil] at w1
            obtain ⟨q, hq, hlk, hk, htb⟩ := okC_e hi2
            have hok := hT r1 q hq
            obtain ⟨k2, k1, -, -⟩ := (okM_e hok).2.2.2.2.2.1 0 r2 hk
            have k1 := k1 rfl
            intro hc hs ad H locs ls hn had hal hL hl hP hD hS
            obtain ⟨w2, w3, w4, w5, hE⟩ := xcall_e hc hs w1 htb
            obtain ⟨q', hq', hM0⟩ := hSd r1 _ h _ _ hE
            obtain rfl : q = q' := Option.some.inj (hq.symm.trans hq')
            have hM := x_met (hM0 D cy ad H.size) (by rintro E st t ⟨⟨k, h, ad, -, hx, -⟩, -⟩; exact hx)
            have e9 := had 1000 (Or.inr (Nat.le_refl _))
            have C9 : xCtx p l s m args meth c y cc nL ret D cy A (ad 1000) := by rw [e9]; exact C
            have hst : (as.reverse ++ st1).map (cv ad) = (as.map (cv ad)).reverse ++ st1.map (cv ad) := by rw [List.map_append, List.map_reverse]
            rw [hst]
            refine x_call (a := (as.map (cv ad)).toArray) (A1 := va_A (xw cy ad h) H.size) ?_ hS (x_free hD hS hA) (x_free hD hS hA) (fun v h' ad' H1 locs1 hQ hn1 had1 hal1 hP1 hD1 hS1 => x_fin (ih _ _ _ _ _ _ ho hQ) w3 w4 hn had hal hL hl w5 hn1 had1 hal1 hP1 hD1 hS1)
            rcases hlk with hlk | hlk
            · exact va_runS ⟨hx, hb, hml, hown, hts⟩ hM ⟨x_cb hts hok hlk k2 hR, hts _ k1⟩ ⟨x_blind, x_pre C9 hP hD hS⟩ rfl (by rw [List.length_map]; exact hn9) hl.1 rfl (lv_room (xsm_e w2 ad).2) hd ⟨Nat.le_trans w3 hmc, Nat.le_trans w4 hms⟩
            · exact va_runSN ⟨hx, hb, hml, hown, hts⟩ hM ⟨x_cn hts hG hok hlk k2 hR, hts _ k1, trivial⟩ ⟨x_blind, x_pre C9 hP hD hS⟩ rfl (by rw [List.length_map]; exact hn9) hl.1 rfl (lv_room (xsm_e w2 ad).2) hd ⟨Nat.le_trans w3 hmc, Nat.le_trans w4 hms⟩
    case invokespecial i =>
      dsimp only [xop] at hw
      obtain ⟨hi1, hi2⟩ := x_and2 hi
      obtain rfl : len = 3 := of_decide_eq_true hi1
      cases e1 : r1 == 901 with
      | true =>
        rw [e1] at hw hi2
        obtain ⟨a, st1, rfl, w1⟩ := pR_e hw
        obtain ⟨hsm, w1⟩ := xsm_e2 w1
        obtain ⟨k1, k2, k3⟩ := x_and3 hi2
        intro hc hs ad H locs ls hn had hal hL hl hP hD hS
        exact W.objInit hx hb hown (hw_ _ k1) (hw_ _ k2) (hw_ _ k3) rfl (hl.1.trans hml.symm) rfl hd (Nat.le_trans (by omega) hR.1) (by have z1 := lv_room (m := m) (pc := pc) (ls := ls) (rest := (Value.ref (ad a)) :: st1.map (cv ad)) (xsm_e hsm ad).2; have z2 := hR.2; exact Nat.le_trans (Nat.add_le_add_right z1 12) (by omega)) (ih _ _ _ _ _ _ ho w1 hc hs ad H locs ls hn had hal hL hl hP hD hS)
      | false =>
        rw [e1] at hw hi2
        obtain ⟨hr9, hi3⟩ := x_and2 hi2
        have hr9 := of_decide_eq_true hr9
        obtain ⟨as, st1, rfl, hn9, w1⟩ := xpop_e hw
        rw [List.append_nil] at w1
        obtain ⟨b, As, rfl⟩ : ∃ b As, as = Value.ref b :: As := by revert w1; cases as with | nil => exact fun h => h.elim | cons a0 as => cases a0 <;> first | exact fun h => h.elim | exact fun _ => ⟨_, _, rfl⟩
        obtain ⟨q, hq, hlk, hk, htb⟩ := okC_e hi3
        have hok := hT r1 q hq
        obtain ⟨k4, -, -, k1⟩ := (okM_e hok).2.2.2.2.2.1 2 (r2 - 1) hk
        obtain ⟨k1, k2, k3⟩ := k1 rfl
        intro hc hs ad H locs ls hn had hal hL hl hP hD hS
        obtain ⟨w2, w3, w4, w5, hE⟩ := xcall_e hc hs w1 htb
        obtain ⟨q', hq', hM0⟩ := hSd r1 _ h _ _ hE
        obtain rfl : q = q' := Option.some.inj (hq.symm.trans hq')
        have hM := x_met (hM0 D cy ad H.size) (by rintro E st t ⟨⟨k, h, ad, -, hx, -⟩, -⟩; exact hx)
        have e9 := had 1000 (Or.inr (Nat.le_refl _))
        have C9 : xCtx p l s m args meth c y cc nL ret D cy A (ad 1000) := by rw [e9]; exact C
        have hst : ((Value.ref b :: As).reverse ++ st1).map (cv ad) = (As.map (cv ad)).reverse ++ Value.ref (ad b) :: st1.map (cv ad) := by rw [List.map_append, List.map_reverse, List.map_cons, List.reverse_cons, List.append_assoc]; rfl
        rw [hst]
        refine x_call (a := (Value.ref (ad b) :: As.map (cv ad)).toArray) (A1 := va_A (xw cy ad h) H.size) ?_ hS (x_free hD hS hA) (x_free hD hS hA) (fun v h' ad' H1 locs1 hQ hn1 had1 hal1 hP1 hD1 hS1 => x_fin (ih _ _ _ _ _ _ ho hQ) w3 w4 hn had hal hL hl w5 hn1 had1 hal1 hP1 hD1 hS1)
        have hn8 : (As.map (cv ad)).length = r2 - 1 := by rw [List.length_map]; simp only [List.length_cons] at hn9; omega
        rcases hlk with hlk | hlk
        · have cb := x_cb hts hok hlk k4 hR
          rw [k2] at cb hM
          exact va_runI ⟨hx, hb, hml, hown, hts⟩ hM ⟨cb, k1, hts _ k3⟩ ⟨x_blind, x_pre C9 hP hD hS⟩ rfl hn8 hl.1 rfl (lv_room (xsm_e w2 ad).2) hd ⟨Nat.le_trans w3 hmc, Nat.le_trans w4 hms⟩
        · have cb := x_cn hts hG hok hlk k4 hR
          rw [k2] at cb hM
          exact va_runIN ⟨hx, hb, hml, hown, hts⟩ hM ⟨cb, k1, hts _ k3⟩ ⟨x_blind, x_pre C9 hP hD hS⟩ rfl hn8 hl.1 rfl (lv_room (xsm_e w2 ad).2) hd ⟨Nat.le_trans w3 hmc, Nat.le_trans w4 hms⟩
    case invokevirtual i =>
      dsimp only [xop] at hw
      obtain ⟨hi, hi6⟩ := x_and2 hi
      obtain ⟨hi1, hr9, hi3⟩ := x_and3 hi
      obtain rfl : len = 3 := of_decide_eq_true hi1
      have hr9 := of_decide_eq_true hr9
      obtain ⟨as, st1, rfl, hn9, w1⟩ := xpop_e hw
      rw [List.append_nil] at w1
      obtain ⟨b, As, rfl⟩ : ∃ b As, as = Value.ref b :: As := by revert w1; cases as with | nil => exact fun h => h.elim | cons a0 as => cases a0 <;> first | exact fun h => h.elim | exact fun _ => ⟨_, _, rfl⟩
      obtain ⟨l0, vs, he, w1⟩ := xhv_e w1
      obtain ⟨q, hq, hlk, hk, htb⟩ := okC_e hi3
      have hok := hT r1 q hq
      obtain ⟨k3, -, k1, -⟩ := (okM_e hok).2.2.2.2.2.1 1 (r2 - 1) hk
      obtain ⟨k1, k2⟩ := k1 rfl
      rw [hq] at hi6
      cases hz : xCl[tb.headD 0]? with
      | none => rw [hz] at hi6; cases hi6
      | some z =>
        rw [hz] at hi6
        have k4 := of_decide_eq_true hi6
        intro hc hs ad H locs ls hn had hal hL hl hP hD hS
        obtain ⟨w2, w3, w4, w5, hE⟩ := xcall_e hc hs w1 htb
        obtain ⟨q', hq', hM0⟩ := hSd r1 _ h _ _ hE
        obtain rfl : q = q' := Option.some.inj (hq.symm.trans hq')
        have hM := x_met (hM0 D cy ad H.size) (by rintro E st t ⟨⟨k, h, ad, -, hx, -⟩, -⟩; exact hx)
        have e9 := had 1000 (Or.inr (Nat.le_refl _))
        have C9 : xCtx p l s m args meth c y cc nL ret D cy A (ad 1000) := by rw [e9]; exact C
        have hst : ((Value.ref b :: As).reverse ++ st1).map (cv ad) = (As.map (cv ad)).reverse ++ Value.ref (ad b) :: st1.map (cv ad) := by rw [List.map_append, List.map_reverse, List.map_cons, List.reverse_cons, List.append_assoc]; rfl
        rw [hst]
        refine x_call (a := (Value.ref (ad b) :: As.map (cv ad)).toArray) (A1 := va_A (xw cy ad h) H.size) ?_ hS (x_free hD hS hA) (x_free hD hS hA) (fun v h' ad' H1 locs1 hQ hn1 had1 hal1 hP1 hD1 hS1 => x_fin (ih _ _ _ _ _ _ ho hQ) w3 w4 hn had hal hL hl w5 hn1 had1 hal1 hP1 hD1 hS1)
        have hn8 : (As.map (cv ad)).length = r2 - 1 := by rw [List.length_map]; simp only [List.length_cons] at hn9; omega
        have hrc := va_recv hK0 hP hz (xw_at he)
        rw [← k4] at hrc
        rcases hlk with hlk | hlk
        · exact va_runV ⟨hx, hb, hml, hown, hts⟩ hM ⟨x_cb hts hok hlk k3 hR, hts _ k1, hts _ k2⟩ ⟨x_blind, hrc, x_pre C9 hP hD hS⟩ rfl hn8 hl.1 rfl (lv_room (xsm_e w2 ad).2) hd ⟨Nat.le_trans w3 hmc, Nat.le_trans w4 hms⟩
        · exact va_runVN ⟨hx, hb, hml, hown, hts⟩ hM ⟨x_cn hts hG hok hlk k3 hR, hts _ k1, hts _ k2⟩ ⟨x_blind, hrc, x_pre C9 hP hD hS⟩ rfl hn8 hl.1 rfl (lv_room (xsm_e w2 ad).2) hd ⟨Nat.le_trans w3 hmc, Nat.le_trans w4 hms⟩
    case ireturn =>
      dsimp only [xop] at hw
      obtain rfl : len = 1 := of_decide_eq_true hi
      obtain ⟨x, st1, rfl, hw1⟩ := pI_e hw
      obtain ⟨rfl, hw2⟩ := p0_e hw1
      obtain ⟨h1, h2, h3, h4⟩ := xret_e hw2
      exact hEnd _ pc (some (.int x)) h cs ss L hd ⟨x, rfl, h1⟩ h2 h3 h4
    case lreturn =>
      dsimp only [xop] at hw
      obtain rfl : len = 1 := of_decide_eq_true hi
      obtain ⟨x, st1, rfl, hw1⟩ := pJ_e hw
      obtain ⟨rfl, hw2⟩ := p0_e hw1
      obtain ⟨h1, h2, h3, h4⟩ := xrtl_e hw2
      exact hEnd _ pc (some (.long x)) h cs ss L hd ⟨x, rfl, h1⟩ h2 h3 h4
    case freturn =>
      dsimp only [xop] at hw
      obtain rfl : len = 1 := of_decide_eq_true hi
      obtain ⟨x, st1, rfl, hw1⟩ := pF_e hw
      obtain ⟨rfl, hw2⟩ := p0_e hw1
      obtain ⟨h1, h2, h3, h4⟩ := xrtf_e hw2
      exact hEnd _ pc (some (.float x)) h cs ss L hd ⟨x, rfl, h1⟩ h2 h3 h4
    case dreturn =>
      dsimp only [xop] at hw
      obtain rfl : len = 1 := of_decide_eq_true hi
      obtain ⟨x, st1, rfl, hw1⟩ := pD_e hw
      obtain ⟨rfl, hw2⟩ := p0_e hw1
      obtain ⟨h1, h2, h3, h4⟩ := xrtd_e hw2
      exact hEnd _ pc (some (.double x)) h cs ss L hd ⟨x, rfl, h1⟩ h2 h3 h4
    case areturn =>
      dsimp only [xop] at hw
      obtain rfl : len = 1 := of_decide_eq_true hi
      obtain ⟨x, st1, rfl, hz, hw1⟩ := pA_e hw
      obtain ⟨rfl, hw2⟩ := p0_e hw1
      obtain ⟨h1, h2, h3, h4⟩ := xrta_e hw2
      exact hEnd _ pc (some x) h cs ss L hd ⟨x, rfl, hz, h1⟩ h2 h3 h4
    case return_ =>
      dsimp only [xop] at hw
      obtain rfl : len = 1 := of_decide_eq_true hi
      obtain ⟨rfl, hw1⟩ := p0_e hw
      obtain ⟨h1, h2, h3, h4⟩ := xrtv_e hw1
      exact hEnd _ pc none h cs ss L hd ⟨rfl, h1⟩ h2 h3 h4
    all_goals exact False.elim hw
