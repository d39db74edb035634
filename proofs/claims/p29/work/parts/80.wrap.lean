/-! ===== the law's wrappers: calls that catch ===== -/
section RXV
variable {p : Program} {l : Launch} {e : Env} {R : Room} {s : State} {m : MethodId} {args : Array Value} {below : List Frame} {meth : Method} {c : Code} {H : Heap} {locs : List Loc} {cells slots : Nat} {Q : State → Prop}
theorem x_callX {D : va_G} {cy : Nat → ClassId} {A A1 : Nat → Prop} {ad : Nat → Nat} {n : Nat} {al : Bool} {mc ms : Nat} {pc : Nat} {ls : Array Slot} {st0 rest : List Value} {a : Array Value} {Qf : Option Value → xH → Prop} {Xf : Nat → xH → Prop} {free : Addr → Prop}
    (hr : vx_Run p l e R s m args below meth c H locs cells slots mc ms (F0 m pc ls st0) rest (xQc D cy ad n al A1 Qf a) (xXc D cy ad n al A1 Xf) free) (hS : va_S A s.heap H locs) (hA : ∀ q, A1 q → A q) (hf : ∀ q, free q → A q)
    (kx : ∀ (k : Nat) (h : xH) (ad' : Nat → Nat) (H1 : Heap) (locs1 : List Loc) (q : Addr) (ce : Cell), Xf k h → n ≤ h.length → (∀ i, i < n ∨ 1000 ≤ i → ad' i = ad i) → (al = false → ad' = ad) → va_P D xCl (xw cy ad' h) H1 → va_D A (xw cy ad' h) → va_S A s.heap H1 locs1 → H1[q]? = some ce → ce.vm = .none → s.vm.findClass (xExc k) = some ce.cls → vx_W p l e R s m args below meth c H1 locs1 (cells + mc) (slots + ms) Q (F0 m pc ls rest) q)
    (kk : ∀ (v : Option Value) (h : xH) (ad' : Nat → Nat) (H1 : Heap) (locs1 : List Loc), Qf v h → n ≤ h.length → (∀ i, i < n ∨ 1000 ≤ i → ad' i = ad i) → (al = false → ad' = ad) → va_P D xCl (xw cy ad' h) H1 → va_D A (xw cy ad' h) → va_S A s.heap H1 locs1 → W p l e R s m args below meth c H1 locs1 (cells + mc) (slots + ms) Q (F0 m (pc + 3) ls ((v.map (cv ad')).toList ++ rest))) : W p l e R s m args below meth c H locs cells slots Q (F0 m pc ls st0) := by
  intro T hT X
  have keep : ∀ (t T' : State) (L : List Loc), T'.heap = t.heap → H.size ≤ t.heap.size → (∀ q : Nat, q < H.size → ¬ A1 q → t.heap[q]? = H[q]?) → (∀ q ∈ L, free q.base) → va_S A s.heap T'.heap (locs ++ L) := fun t T' L e1 hz hk hL =>
    ⟨Nat.le_trans hS.1 (by rw [e1]; exact hz), fun q h1 h2 => by rw [e1, hk q (Nat.lt_of_lt_of_le h1 hS.1) (fun z => h2 (hA q z))]; exact hS.2.1 q h1 h2, fun q hq => by
      rcases List.mem_append.mp hq with h | h
      · exact hS.2.2 q h
      · exact hf _ (hL q h)⟩
  rcases hr T hT X with ⟨v, st₀, t, T', L, h0, X', hL, e1, e2, ⟨⟨v', h, ad', hv, hq, hn, had, hal, hP, hK, hD⟩, hz, hk⟩, st⟩ | ⟨q, st₀, t, T', L, E, ce, h0, X', hL, e1, e2, ⟨⟨k, h, ad', hE, hq, hn, had, hal, hP, hK, hD⟩, hz, hk⟩, hce, hcv, hcl, st⟩
  · have hv : v = v'.map (cv ad') := by injection hv
    subst hv
    rw [h0] at hz hk
    obtain ⟨t2, a1, b1⟩ := kk v' h ad' T'.heap (locs ++ L) hq hn had hal (by rw [e1]; exact hP) (hD.weaken fun _ _ _ h => hA _ h) (keep t T' L e1 hz hk hL) T' rfl X'
    exact ⟨t2, st t2 a1, b1⟩
  · subst hE
    rw [h0] at hz hk
    obtain ⟨t2, a1, b1⟩ := kx k h ad' T'.heap (locs ++ L) q ce hq hn had hal (by rw [e1]; exact hP) (hD.weaken fun _ _ _ h => hA _ h) (keep t T' L e1 hz hk hL) (by rw [e1]; exact hce) hcv hcl T' rfl X'
    exact ⟨t2, st.trans a1, b1⟩
/-- the handlers' codes agree with the tables -/
def wOk (pc : Nat) : List (Nat × Nat × Nat × Nat) → List Nat → Bool
  | [], _ => true
  | (f, t, hp, ci) :: hh, k :: hk => covers ⟨f, t, hp, ci⟩ pc && decide (ci ≠ 0) && xin (.classLink RL ci (xExc k)) && (decide (k = 10) || decide (k = 11) || decide (k = 12)) && wOk pc hh hk
  | _ :: _, [] => false
def wLook (k : Nat) : List (Nat × Nat × Nat × Nat) → List Nat → Option Nat
  | (_, _, hp, _) :: hh, k' :: hk => if k' = k then some hp else wLook k hh hk
  | _, _ => none
def ncAll (U : State) : Prop := ∀ a b, (a = 10 ∨ a = 11 ∨ a = 12) → (b = 10 ∨ b = 11 ∨ b = 12) → a ≠ b → va_Nc (xExc a) (xExc b) U
theorem x_cat {pc k hp : Nat} {ls : Array Slot} {rest : List Value} {q : Addr} {ce : Cell} (hown : s.vm.findClass RL = some m.cls) (hts : ∀ w ∈ xTB, w.before args s = true) (hodd : ∀ w ∈ xOdd, va_Nw w s) (hnc : ncAll s) (hk3 : k = 10 ∨ k = 11 ∨ k = 12)
    (hcell : H[q]? = some ce) (hv : ce.vm = .none) (hcl : s.vm.findClass (xExc k) = some ce.cls) : ∀ (hh : List (Nat × Nat × Nat × Nat)) (hk : List Nat) (pre : List ExceptionTableEntry), c.exceptionTable.toList = pre ++ tableOf hh →
    (∀ z ∈ pre, covers z pc = false ∨ (z.catchType ≠ 0 ∧ ∃ nm : String, (Cond.classLink RL z.catchType nm).before args s = true ∧ va_Nc (xExc k) nm s)) → wOk pc hh hk = true → wLook k hh hk = some hp →
    W p l e R s m args below meth c H locs cells slots Q (F0 m hp ls [.ref q]) → vx_W p l e R s m args below meth c H locs cells slots Q (F0 m pc ls rest) q
  | [], hk, pre, _, _, _, hl, _ => nomatch hl
  | _ :: _, [], pre, _, _, _, hl, _ => nomatch hl
  | (f, t, hp', ci) :: hh, k' :: hk, pre, ht, hp1, ho, hl, kk => by
    obtain ⟨ho, o5⟩ := x_and2' ho
    obtain ⟨ho, o4⟩ := x_and2' ho
    obtain ⟨ho, o3⟩ := x_and2' ho
    obtain ⟨o1, o2⟩ := x_and2' ho
    have o2 := of_decide_eq_true o2
    have o3 := hts _ (xin_e o3)
    have o4 : k' = 10 ∨ k' = 11 ∨ k' = 12 := by
      simp only [Bool.or_eq_true, decide_eq_true_eq] at o4
      omega
    by_cases ek : k' = k
    · subst ek
      have hl2 : hp' = hp := by
        rw [wLook, if_pos rfl] at hl
        exact Option.some.inj hl
      subst hl2
      have hc : (Cond.castable (xExc k') (xExc k')).before args s = true := xOdd_use hodd _ (by
        rcases hk3 with rfl | rfl | rfl
        · exact List.mem_cons_self
        · exact List.mem_cons_of_mem _ List.mem_cons_self
        · exact List.mem_cons_of_mem _ (List.mem_cons_of_mem _ List.mem_cons_self))
      exact vx_catch hown pre ⟨f, t, hp', ci⟩ (tableOf hh) ht hp1 o1 o2 o3 hc hcell hv hcl kk
    · rw [wLook, if_neg ek] at hl
      refine x_cat hown hts hodd hnc hk3 hcell hv hcl hh hk (pre ++ [⟨f, t, hp', ci⟩]) ?_ ?_ o5 hl kk
      · rw [ht, List.append_assoc]
        rfl
      · intro z hz
        rcases List.mem_append.mp hz with hz | hz
        · exact hp1 z hz
        · obtain rfl := List.mem_singleton.mp hz
          exact Or.inr ⟨o2, xExc k', o3, hnc k k' hk3 o4 (fun q => ek q.symm)⟩
/-- the exception is put away -/
theorem x_put {cc : ByteArray} {nL pc i len : Nat} {L : xL} {ad : Nat → Nat} {ls : Array Slot} {q : Addr} (hx : p.tables.exec = Jvm.exec) (hb : c.code = cc) (hd : (decode cc pc = .ok (.astore i, 2) ∧ len = 2) ∨ (∃ k : Fin 4, decode cc pc = .ok (.astore_n k, 1) ∧ (k : Nat) = i ∧ len = 1)) (hi : i < nL) (hl : lv_has ls nL (xps ad L)) (hno : ∀ (j : Nat) (v : Value), L[j]? = some (some v) → j ≠ i ∧ ¬ v.category = 2)
    (kk : ∀ ls' : Array Slot, lv_has ls' nL (xps ad L) → W p l e R s m args below meth c H locs cells slots Q (F0 m (pc + len) ls' [])) : W p l e R s m args below meth c H locs cells slots Q (F0 m pc ls [.ref q]) := by
  have sub : ∀ ls' : Array Slot, lv_has ls' nL ((i, Value.ref q) :: (xps ad L).filter (fun q => !(q.1 == i) && !(q.1 + 1 == i && q.2.category == 2))) → lv_has ls' nL (xps ad L) := fun ls' h => lv_less h fun z hz => by
    obtain ⟨j, w⟩ := z
    obtain ⟨u, h1, rfl⟩ := xps_mem.mp hz
    obtain ⟨e1, e2⟩ := hno j u h1
    refine List.mem_cons_of_mem _ (List.mem_filter.mpr ⟨hz, ?_⟩)
    have e3 : ((cv ad u).category == 2) = false := by
      rw [cv_cat]
      exact beq_eq_false_iff_ne.mpr e2
    show (!(j == i) && !(j + 1 == i && (cv ad u).category == 2)) = true
    rw [e3, beq_eq_false_iff_ne.mpr e1, Bool.and_false]
    rfl
  rcases hd with ⟨hd, rfl⟩ | ⟨k, hd, hk, rfl⟩
  · exact lv_astore hx hb hd hl hi rfl (fun ls' h => kk ls' (sub ls' h))
  · exact lv_astore_n hx hb hd hk hl hi rfl (fun ls' h => kk ls' (sub ls' h))
end RXV
