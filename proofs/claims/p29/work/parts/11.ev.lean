/-! ===== how Ev is proved and used ===== -/
def NX : Nat → xH → Prop := fun _ _ => False
def Rt (r : Option Value) (h' : xH) : Option Value → xH → Prop := fun v g => v = r ∧ g = h'
theorem Ev_intro {T : List xM} {d M : Nat} {args : List Value} {h : xH} {Q : Option Value → xH → Prop} {X : Nat → xH → Prop} {y : MethodName} {cc : ByteArray} {nL : Nat} {ret : Option FieldType} {mc ms : Nat} {al : Bool} {bl : List xB}
    (hm : T[M]? = some (y, cc, nL, ret, mc, ms, al, bl)) (hl : (xfl args).length ≤ nL)
    (body : ∀ (Q' : Option Value → xH → Prop) (X' : Nat → xH → Prop), (∀ v g, Q v g → Q' v g) → (∀ k g, X k g → X' k g) → ∀ K : xK,
      (∀ (b pc : Nat) (es : List xE) (nx : Nat) (L : xL) (st : List Value) (g : xH) (c s : Nat), bl[b]? = some (pc, es, nx) →
        wpI none (fun M' a' h' Q' => Ev T d M' a' h' Q' NX) ret mc ms al Q' X' K nx es L st g c s → K b L st g c s) → K 0 (xent nL args) [] h 0 0) : Ev T (d + 1) M args h Q X :=
  ⟨_, hm, hl, fun Q' X' hQ hX K hK => body Q' X' hQ hX K (fun b pc es nx L st g c s hb hw => hK b (pc, es, nx) L st g c s hb hw)⟩
theorem Ev_mono {T : List xM} {d M : Nat} {args : List Value} {h : xH} {Q Q2 : Option Value → xH → Prop} {X X2 : Nat → xH → Prop} (hv : Ev T d M args h Q X) (hQ : ∀ v g, Q v g → Q2 v g) (hX : ∀ k g, X k g → X2 k g) : Ev T d M args h Q2 X2 := by
  cases d with
  | zero => exact hv
  | succ d =>
    obtain ⟨m, hm, hl, hv⟩ := hv
    exact ⟨m, hm, hl, fun Q' X' h1 h2 K hK => hv Q' X' (fun v g h => h1 v g (hQ v g h)) (fun k g h => h2 k g (hX k g h)) K hK⟩
theorem Ev_use {T : List xM} {d M : Nat} {args : List Value} {h h' : xH} {Q : Option Value → xH → Prop} {r : Option Value} (hv : Ev T d M args h (Rt r h') NX) (k : Q r h') : Ev T d M args h Q NX :=
  Ev_mono hv (fun v g hq => by obtain ⟨rfl, rfl⟩ := hq; exact k) (fun _ _ h => h)
theorem Ev_of {T : List xM} {d M : Nat} {args : List Value} {h : xH} {Q Q2 : Option Value → xH → Prop} (hv : Ev T d M args h Q NX) (k : ∀ v g, Q v g → Q2 v g) : Ev T d M args h Q2 NX := Ev_mono hv k (fun _ _ h => h)
/-! numbers -/
theorem n_i31 {k : Nat} (h : k < 32) : nI k &&& 31 = nI k := by
  have key : ∀ k, k < 32 → nI k &&& 31 = nI k := by decide +kernel
  exact key k h
theorem n_and (a b : Nat) : nI a &&& nI b = nI (a &&& b) := by
  apply Int32.toBitVec_inj.mp
  show BitVec.ofNat 32 a &&& BitVec.ofNat 32 b = BitVec.ofNat 32 (a &&& b)
  rw [BitVec.ofNat_and]
theorem n_or (a b : Nat) : nI a ||| nI b = nI (a ||| b) := by
  apply Int32.toBitVec_inj.mp
  show BitVec.ofNat 32 a ||| BitVec.ofNat 32 b = BitVec.ofNat 32 (a ||| b)
  rw [BitVec.ofNat_or]
theorem n_xor (a b : Nat) : nI a ^^^ nI b = nI (a ^^^ b) := by
  apply Int32.toBitVec_inj.mp
  show BitVec.ofNat 32 a ^^^ BitVec.ofNat 32 b = BitVec.ofNat 32 (a ^^^ b)
  rw [BitVec.ofNat_xor]
theorem n_sm {k : Nat} (h : k < 32) : ((nI k &&& 31).toBitVec.smod 32).toNat = k := by
  have key : ∀ k, k < 32 → ((nI k &&& 31).toBitVec.smod 32).toNat = k := by decide +kernel
  exact key k h
theorem n_shr {n k : Nat} (hn : n < 2 ^ 31) (h : k < 32) : nI n >>> nI k = nI (n >>> k) := by
  have e := pk_shrN hn _ k (n_sm h)
  rw [n_i31 h] at e
  rw [e, Nat.shiftRight_eq_div_pow]
theorem n_shl {n k : Nat} (hk : k < 32) (h : n <<< k < 2 ^ 32) : nI n <<< nI k = nI (n <<< k) := by
  rw [Nat.shiftLeft_eq] at h ⊢
  have e := pk_shlN _ k (n_sm hk) h
  rw [n_i31 hk] at e
  exact e
theorem n_m1 : (-1 : Int32) = nI 4294967295 := by decide +kernel
theorem n_cl {n : Nat} (h : n < 2 ^ 31) : (nI n).toNatClampNeg = n := nI_clamp h
theorem n_b1 (b : Bool) : (if b then nI 1 else nI 0) = nI (if b then 1 else 0) := by cases b <;> rfl
theorem f40 : ((0 : Fin 4) : Nat) = 0 := rfl
theorem f41 : ((1 : Fin 4) : Nat) = 1 := rfl
theorem f42 : ((2 : Fin 4) : Nat) = 2 := rfl
theorem f43 : ((3 : Fin 4) : Nat) = 3 := rfl
theorem n_in {i n : Nat} (h : i < 2 ^ 31) : vp_in (nI i) n ↔ i < n := by
  unfold vp_in
  rw [nI_clamp h]
  constructor
  · intro q; exact Nat.not_le.mp fun z => q (Or.inr z)
  · rintro q (z | z)
    · exact nI_pos h z
    · omega
theorem n_e0 {a : Nat} (h : a < 2 ^ 32) : nI a = 0 ↔ a = 0 := by
  constructor
  · intro q
    have q : BitVec.ofNat 32 a = 0#32 := Int32.toBitVec_inj.mpr q
    have q := congrArg BitVec.toNat q
    rw [BitVec.toNat_ofNat, Nat.mod_eq_of_lt h] at q
    exact q
  · rintro rfl; rfl
theorem n_eq {a b : Nat} (ha : a < 2 ^ 32) (hb : b < 2 ^ 32) : nI a = nI b ↔ a = b := by
  constructor
  · intro q
    have q : BitVec.ofNat 32 a = BitVec.ofNat 32 b := Int32.toBitVec_inj.mpr q
    have q := congrArg BitVec.toNat q
    rw [BitVec.toNat_ofNat, BitVec.toNat_ofNat, Nat.mod_eq_of_lt ha, Nat.mod_eq_of_lt hb] at q
    exact q
  · rintro rfl; rfl
theorem n_m1e {a : Nat} (h : a < 2 ^ 31) : nI a = -1 ↔ False := by
  rw [n_m1, n_eq (by omega) (by omega)]
  constructor
  · intro q; omega
  · exact False.elim
theorem n_l0 {a : Nat} (h : a < 2 ^ 31) : nI a < 0 ↔ False := ⟨fun q => nI_pos h q, False.elim⟩
theorem n_g0 {a : Nat} (h : a < 2 ^ 31) : 0 ≤ nI a ↔ True := ⟨fun _ => trivial, fun _ => nI_pos' h⟩
theorem n_p0 {a : Nat} (h : a < 2 ^ 31) : 0 < nI a ↔ 0 < a := by
  rw [← nI_0, nI_ltI (by omega) h]
theorem n_q0 {a : Nat} (h : a < 2 ^ 31) : nI a ≤ 0 ↔ a = 0 := by
  rw [← nI_0, nI_leI h (by omega)]; omega
theorem n_sub {a b : Nat} (h : b ≤ a) : nI a - nI b = nI (a - b) := pk_sub h
theorem n_div {a d : Nat} (ha : a < 2 ^ 31) (h0 : 0 < d) (hd : d < 2 ^ 31) : nI a / nI d = nI (a / d) := pk_div ha h0 hd
/-- a truth as a number -/
def bI (b : Bool) : Int32 := if b then nI 1 else nI 0
theorem bI_t : bI true = nI 1 := rfl
theorem bI_f : bI false = nI 0 := rfl
theorem bI_0 (b : Bool) : bI b = 0 ↔ b = false := by cases b <;> simp [bI] <;> decide
theorem bI_01 (b : Bool) : bI b = 0 ∨ bI b = 1 := by cases b <;> first | exact Or.inl rfl | exact Or.inr rfl
theorem n_1 : nI 1 = 1 := rfl
theorem n_01 : (nI 0 = 0 ∨ nI 0 = 1) ↔ True := ⟨fun _ => trivial, fun _ => Or.inl rfl⟩
theorem n_11 : (nI 1 = 0 ∨ nI 1 = 1) ↔ True := ⟨fun _ => trivial, fun _ => Or.inr rfl⟩
theorem bI_or (b : Bool) : (bI b = 0 ∨ bI b = 1) ↔ True := ⟨fun _ => trivial, fun _ => bI_01 b⟩
theorem Rt_iff {r v : Option Value} {h g : xH} : Rt r h v g ↔ v = r ∧ g = h := Iff.rfl
theorem b_nf {b : Bool} (h : ¬ b = false) : b = true := by cases b <;> first | rfl | exact absurd rfl h
