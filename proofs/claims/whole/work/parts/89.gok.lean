/-! ===== the law's heap: the class's seven cells, the model's eight, the answer's cell, the Plays ===== -/
abbrev tl9 (N B K T O D : List Nat) (laid : Int32) (len st many at' thr : Nat) (isK : Bool) (u : Int64) (g : xH) : xH :=
  (7, [], [.ref 8, .ref 9, .ref 10, .ref 11, .ref 12, .ref 13, .ref 14, .int laid, .int (nI len), .int (nI st), .int (nI many), .int (nI at'), .int (bI isK), .int (nI thr)]) ::
  (0, N.map nI, []) :: (0, B.map nI, []) :: (0, K.map nI, []) :: (1, T.map nI, []) :: (0, O.map nI, []) :: (0, shapesN.map nI, []) :: (0, D.map nI, []) :: (3, [], [.long u]) :: g
def zB (N V S C : List Nat) (P : List Value) (sv tl : Nat) (has : Bool) : Nat → xC := fun i => match i with
  | 0 => (6, [], [.ref 1, .ref 2, .int (nI sv), .ref 3, .int (bI has), .ref 4, .int (nI tl), .ref 5, .ref 6])
  | 1 => (0, N.map nI, [])
  | 2 => (0, V.map nI, [])
  | 3 => (0, S.map nI, [])
  | 4 => (1, C.map nI, [])
  | 5 => (0, shapesN.map nI, [])
  | _ => (4, [], P)
theorem hBM (N V S C : List Nat) (P : List Value) (sv tl : Nat) (has : Bool) (M B K T O D : List Nat) (laid : Int32) (len st many at' thr : Nat) (isK : Bool) (u : Int64) (g : xH) :
    hB N V S C P sv tl has (tl9 M B K T O D laid len st many at' thr isK u g) = hM (zB N V S C P sv tl has) M B K T O shapesN D laid len st many at' thr isK ((3, [], [.long u]) :: g) := rfl
theorem shapes_132 : shapesN.length = 132 := by decide +kernel
theorem tl_far {N B K T O D N' B' K2 T' O' D' : List Nat} {laid laid' : Int32} {len st many at' thr len' st' many' at2 thr' : Nat} {isK isK' : Bool} {u u' : Int64} {g : xH} (hN : N.length = 19) (hB : B.length = 114) (hK : K.length = 19) (hO : O.length = 120) (hD : D.length = 1056)
    {p : Nat} {c : xC} (h : (hB0 (tl9 N B K T O D laid len st many at' thr isK u g))[p + 7]? = some c) (hk : c.1 = 5 ∨ c.1 = 2 ∨ (c.1 = 0 ∧ c.2.1.length = 264)) : (hB0 (tl9 N' B' K2 T' O' D' laid' len' st' many' at2 thr' isK' u' g))[p + 7]? = some c := by
  match p, h with
  | 0, h => obtain rfl := Option.some.inj h; simp at hk
  | 1, h => obtain rfl := Option.some.inj h; simp [hN] at hk
  | 2, h => obtain rfl := Option.some.inj h; simp [hB] at hk
  | 3, h => obtain rfl := Option.some.inj h; simp [hK] at hk
  | 4, h => obtain rfl := Option.some.inj h; simp at hk
  | 5, h => obtain rfl := Option.some.inj h; simp [hO] at hk
  | 6, h => obtain rfl := Option.some.inj h; simp [shapes_132] at hk
  | 7, h => obtain rfl := Option.some.inj h; simp [hD] at hk
  | 8, h => obtain rfl := Option.some.inj h; simp at hk
  | n + 9, h => exact h
theorem gOk_tl {N B K T O D N' B' K2 T' O' D' : List Nat} {laid laid' : Int32} {len st many at' thr len' st' many' at2 thr' : Nat} {isK isK' : Bool} {u u' : Int64} {g : xH} {P : List Value} (hN : N.length = 19) (hB : B.length = 114) (hK : K.length = 19) (hO : O.length = 120) (hD : D.length = 1056)
    (h : gOk P (tl9 N B K T O D laid len st many at' thr isK u g)) : gOk P (tl9 N' B' K2 T' O' D' laid' len' st' many' at2 thr' isK' u' g) := by
  obtain ⟨h1, h2, h3, h4, h5⟩ := h
  refine ⟨h1, fun i hi => ?_, h3, h4, h5⟩
  rcases h2 i hi with h | ⟨p, w, lg, sh, e, x⟩
  · exact Or.inl h
  · obtain ⟨x1, x2, x3, x4, x5, x6, x7, x8, x9, x10, x11⟩ := x
    refine Or.inr ⟨p, w, lg, sh, e, tl_far hN hB hK hO hD x1 (Or.inl rfl), x2, tl_far hN hB hK hO hD x3 (Or.inr (Or.inl rfl)), tl_far hN hB hK hO hD x4 (Or.inr (Or.inr ⟨rfl, ?_⟩)), tl_far hN hB hK hO hD x5 (Or.inr (Or.inr ⟨rfl, ?_⟩)), x6, x7, x8, x9, x10, x11⟩
    · rw [List.length_map]; exact x10
    · rw [List.length_map]; exact x11
/-- what holds of class and model between two calls -/
def LJ (q : Nat) (N V S C : List Nat) (P : List Value) (sv tl : Nat) (has : Bool) (B K' O D : List Nat) (laid : Int32) (many at' thr : Nat) (u : Int64) (g : xH) : Prop :=
  okG q N ∧ relV q V B sv ∧ (S.length = 18 ∧ K'.length = 19 ∧ (has = true → okG q S ∧ K' = mOf S)) ∧ (C.length = 60 ∧ (∀ j, C.getD j 0 < 128) ∧ tl ≤ 60) ∧ O.length = 120 ∧ tdI laid D ∧ gOk P (tl9 (mOf N) B K' C O D laid tl sv many at' thr has u g)
def LI (q : Nat) (h : xH) : Prop := ∃ (N V S C : List Nat) (P : List Value) (sv tl : Nat) (has : Bool) (B K' O D : List Nat) (laid : Int32) (many at' thr : Nat) (u : Int64) (g : xH),
  h = hB N V S C P sv tl has (tl9 (mOf N) B K' C O D laid tl sv many at' thr has u g) ∧ LJ q N V S C P sv tl has B K' O D laid many at' thr u g
theorem LJ_le {q q' : Nat} {N V S C : List Nat} {P : List Value} {sv tl : Nat} {has : Bool} {B K' O D : List Nat} {laid : Int32} {many at' thr : Nat} {u : Int64} {g : xH} (h : LJ q N V S C P sv tl has B K' O D laid many at' thr u g) (hq : q ≤ q') : LJ q' N V S C P sv tl has B K' O D laid many at' thr u g := by
  obtain ⟨h1, h2, ⟨h3, h4, h5⟩, h6, h7, h8, h9⟩ := h
  exact ⟨okG_le h1 hq, relV_le h2 hq, ⟨h3, h4, fun z => ⟨okG_le (h5 z).1 hq, (h5 z).2⟩⟩, h6, h7, h8, h9⟩
theorem mOf_len (N : List Nat) : (mOf N).length = 19 := rfl
/-- the Plays stay whatever becomes of the other cells -/
theorem LJ_g {q : Nat} {N V S C : List Nat} {P : List Value} {sv tl : Nat} {has : Bool} {B K' O D : List Nat} {laid : Int32} {many at' thr : Nat} {u : Int64} {g : xH} (h : LJ q N V S C P sv tl has B K' O D laid many at' thr u g) {N' B' K2 T' O' D' : List Nat} {laid' : Int32} {len' st' many' at2 thr' : Nat} {isK' : Bool} {u' : Int64} : gOk P (tl9 N' B' K2 T' O' D' laid' len' st' many' at2 thr' isK' u' g) :=
  gOk_tl (mOf_len N) h.2.1.2.1 h.2.2.1.2.1 h.2.2.2.2.1 h.2.2.2.2.2.1.1 h.2.2.2.2.2.2
abbrev HK (lst : List Int32) (K : xK) : Prop := ∀ (b : Nat) (B : xB) (L : xL) (st : List Value) (g : xH) (c s : Nat), b_law[b]? = some B → ps_law b = false →
    wpI (some lst) (fun M' a' h' Q' => Ev xT 20 M' a' h' Q' (fun _ _ => False)) (some .boolean) 601024 7293034 true (fun v _ => v = some (.int 1)) (fun _ _ => False) K B.2.2 B.2.1 L st g c s → K b L st g c s
abbrev HC (K : xK) : Prop := ∀ r ∈ wR, ∀ (as rest : List Value) (L : xL) (g : xH) (c s : Nat) (Q' : Option Value → xH → Prop), as.length = r.2.2.2.2.2.2.2.2.1 → rest.length ≤ 4 → c + r.2.2.2.2.1.1 ≤ 601024 → s + r.2.2.2.2.1.2.1 ≤ 7293034 → (xfl as).length ≤ r.2.2.2.1.2.2.2 → xwL g.length L → xwS g.length rest →
    EvW 20 r.2.1 r.2.2.1 r.2.2.2.1.1 r.2.2.2.1.2.1 r.2.2.2.1.2.2.1 r.2.2.2.1.2.2.2 r.2.2.2.2.1.1 r.2.2.2.2.1.2.1 r.2.2.2.2.1.2.2 as g Q' →
    (∀ v h', Q' v h' → K (r.1 + 1) L (xpush v rest) h' (c + r.2.2.2.2.1.1) (s + r.2.2.2.2.1.2.1)) → K r.1 L (as.reverse ++ rest) g c s
abbrev L9 (i : Int32) (a b c d : Option Value) : xL := [some (.ref 1001), some (.ref 0), some (.ref 7), some (.ref 15), some (.int i), a, b, c, d]
/-- on to the next call -/
def Nx (K : xK) (i : Int32) (q c s : Nat) : Prop := ∀ (h' : xH) (a b e d : Option Value) (c' s' : Nat), (∀ n, xwL n [a, b, e, d]) → c' ≤ c + 200 → s' ≤ s + 9000 → LI (q + 6100) h' → K 100 (L9 i a b e d) [] h' c' s'
theorem xwL_2 {a b e d : Option Value} (h : ∀ n, xwL n [a, b, e, d]) (x y : Int32) : ∀ n, xwL n [some (.int x), some (.int y), e, d] := by
  intro n
  have h := h n
  refine ⟨trivial, trivial, ?_⟩
  cases a <;> cases b
  · exact h
  · exact h.2
  · exact h.2
  · exact h.2.2
theorem xwL_9 {a b e d : Option Value} (h : ∀ n, xwL n [a, b, e, d]) (i : Int32) {n : Nat} (hn : 16 ≤ n) : xwL n (L9 i a b e d) := by
  refine ⟨Or.inr (by decide), Or.inl ?_, Or.inl ?_, Or.inl ?_, trivial, h n⟩ <;> (show _ < n; omega)
/-- what a wrapper answers: 0 with the value put away, or a code -/
def WQ (code : Nat) (r : Int32) (h1 h0 : xH) : Option Value → xH → Prop := fun v h' => (code = 0 ∧ v = some (.int (nI 0)) ∧ h' = h1.set 15 (3, [], [.long r.toInt64])) ∨ (code ≠ 0 ∧ v = some (.int (nI code)) ∧ h' = h0)
theorem Mr_0 {c : Nat} {r : Option Value} {h1 h0 h : xH} {v : Option Value} (hc : c = 0) (h9 : Mr c r h1 h0 v h) : v = r ∧ h = h1 := by
  rcases h9 with h | h
  · exact h.2
  · exact absurd hc h.1
theorem Mr_1 {c : Nat} {r : Option Value} {h1 h0 h : xH} {v : Option Value} (hc : c ≠ 0) (h9 : Mr c r h1 h0 v h) : v = some (.int (nI 0)) ∧ h = h0 := by
  rcases h9 with h | h
  · exact absurd h.1 hc
  · exact h.2
theorem lcmp_rf (x : Int64) : lg_cmp x x = 0 := by simp [lg_cmp]
