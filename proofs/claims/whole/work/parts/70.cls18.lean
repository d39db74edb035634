/-! the class: the bits of its two shares -/
theorem bos_sum (E m : Nat) (hE : E < 1024) : (nI E).toInt64 <<< ((nI 52).toInt64 &&& 63) + Int64.ofNat m = (dN E m).toInt64 := by
  have key : (List.range 1024).all (fun E => decide ((nI E).toInt64 <<< ((nI 52).toInt64 &&& 63) = Int64.ofNat (E * 2 ^ 52))) = true := by decide +kernel
  rw [of_decide_eq_true (List.all_eq_true.mp key E (List.mem_range.mpr hE)), ← Int64.ofNat_add]
  unfold dN
  rw [dN_eq]
  rfl
set_option maxRecDepth 100000 in
set_option maxHeartbeats 4000000 in
theorem ev_bosD (d b g : Nat) (h : xH) (h1 : b ≤ g) (h2 : g < 2 ^ 31) :
    Ev xT (d + 1) N_B_bitsOfShare [.double (bsF b g), .int (nI 1023), .int (nI 52)] h (Rt (some (.long (bsF b g).toInt64)) h) NX := by
  have z : Ev xT (d + 1) N_B_bitsOfShare [.double 0, .int (nI 1023), .int (nI 52)] h (Rt (some (.long (0 : UInt64).toInt64)) h) NX := ev_bitsOf0 d 1023 52 h
  unfold bsF
  by_cases e : nI g = 0
  · rw [if_pos e]
    exact z
  · rw [if_neg e]
    have hg : g ≠ 0 := fun q => e (by rw [q]; rfl)
    by_cases eb : b = 0
    · rw [eb, sh_0 h2 (by omega)]
      exact z
    · obtain ⟨E, m, e1, e2, hm, ex⟩ := sh_dN (b := b) (g := g) (by omega) h1 h2
      rw [ex]
      have c1 : lN 1 <<< ((nI 52).toInt64 &&& 63) = 4503599627370496 := by decide +kernel
      obtain ⟨v1, v2, v3⟩ := dN_man hm
      have en : E + (1023 - E) = 1023 := by omega
      have h0 := ev_bitsOfShare d (1023 - E) 1023 52 (fun j => dN (E + j) m) h (dN_pos (by omega) (by omega) hm)
        (fun j hj => ⟨dN_lt (by omega) (by omega) hm, dN_dbl (by omega) (by omega) hm, n64_of (dN_nan (by omega) (by omega) hm)⟩)
        (by show FP.dcmp (dN (E + (1023 - E)) m) FP.dconst1 = _ ∨ _; rw [en]; exact dN_ge hm) (by omega) (by decide) (by decide)
        (by show vf_n64 (FP.dsub (dN (E + (1023 - E)) m) FP.dconst1); rw [en]; exact v1)
        (by show vf_n64 (FP.dmul (FP.dsub (dN (E + (1023 - E)) m) FP.dconst1) _); rw [en, c1]; exact v2)
      have e3 : 1023 - (1023 - E) = E := by omega
      rw [en, c1, v3, e3, bos_sum E m (by omega), Nat.add_zero] at h0
      exact h0
def itF (x : UInt64) : Nat → UInt64
  | 0 => x
  | j + 1 => FP.dmul (itF x j) 4611686018427387904
def nF (k : Nat) : Nat := if 132 ≤ k then 0 else if 132 ≤ k * 2 then 1 else if 132 ≤ k * 4 then 2 else if 132 ≤ k * 8 then 3 else if 132 ≤ k * 16 then 4 else if 132 ≤ k * 32 then 5 else if 132 ≤ k * 64 then 6 else if 132 ≤ k * 128 then 7 else 8
def n64B (x : UInt64) : Bool := decide (x &&& 0x7fffffffffffffff ≤ 0x7ff0000000000000)
theorem n64B_of {x : UInt64} (h : n64B x = true) : vf_n64 x := of_decide_eq_true (p := x &&& 0x7fffffffffffffff ≤ 0x7ff0000000000000) h
def ckF (k : Nat) : Bool := decide (FP.dcmp (FP.f2d (wsF k)) FP.dconst0 = some .gt) && (List.range (nF k)).all (fun j => decide (FP.dcmp (itF (FP.f2d (wsF k)) j) FP.dconst1 = some .lt) && n64B (itF (FP.f2d (wsF k)) (j + 1))) &&
  (decide (FP.dcmp (itF (FP.f2d (wsF k)) (nF k)) FP.dconst1 = some .gt) || decide (FP.dcmp (itF (FP.f2d (wsF k)) (nF k)) FP.dconst1 = some .eq)) && decide (nF k < 100) &&
  n64B (FP.dsub (itF (FP.f2d (wsF k)) (nF k)) FP.dconst1) && n64B (FP.dmul (FP.dsub (itF (FP.f2d (wsF k)) (nF k)) FP.dconst1) (FP.l2d (lN 1 <<< ((nI 23).toInt64 &&& 63)))) &&
  decide ((nI (127 - nF k)).toInt64 <<< ((nI 23).toInt64 &&& 63) + FP.d2l (FP.dmul (FP.dsub (itF (FP.f2d (wsF k)) (nF k)) FP.dconst1) (FP.l2d (lN 1 <<< ((nI 23).toInt64 &&& 63)))) = (wsF k).toInt32.toInt64)
theorem ckF_all : (List.range 132).all (fun k => ckF (k + 1)) = true := by decide +kernel
set_option maxRecDepth 100000 in
set_option maxHeartbeats 4000000 in
theorem ev_bosF (d k : Nat) (h : xH) (hk : k ≤ 132) :
    Ev xT (d + 1) N_B_bitsOfShare [.double (FP.f2d (wsF k)), .int (nI 127), .int (nI 23)] h (Rt (some (.long (wsF k).toInt32.toInt64)) h) NX := by
  by_cases e : k = 0
  · subst e
    have e1 : FP.f2d (wsF 0) = 0 := by decide +kernel
    have e2 : (wsF 0).toInt32.toInt64 = 0 := by decide +kernel
    rw [e1, e2]
    exact ev_bitsOf0 d 127 23 h
  · have c := List.all_eq_true.mp ckF_all (k - 1) (List.mem_range.mpr (by omega))
    rw [show k - 1 + 1 = k by omega] at c
    unfold ckF at c
    simp only [Bool.and_eq_true, Bool.or_eq_true] at c
    obtain ⟨⟨⟨⟨⟨⟨c1, c2⟩, c3⟩, c4⟩, c5⟩, c6⟩, c7⟩ := c
    have h0 := ev_bitsOfShare d (nF k) 127 23 (itF (FP.f2d (wsF k))) h (of_decide_eq_true c1)
      (fun j hj => by
        have q := List.all_eq_true.mp c2 j (List.mem_range.mpr hj)
        rw [Bool.and_eq_true] at q
        exact ⟨of_decide_eq_true q.1, rfl, n64B_of q.2⟩)
      (c3.imp of_decide_eq_true of_decide_eq_true) (by have := of_decide_eq_true c4; omega) (by decide) (by decide) (n64B_of c5) (n64B_of c6)
    rw [of_decide_eq_true c7] at h0
    exact h0
theorem f2d_n {k : Nat} (hk : k ≤ 132) : vf_n64 (FP.f2d (wsF k)) := by
  have key : (List.range 133).all (fun k => n64B (FP.f2d (wsF k))) = true := by decide +kernel
  exact n64B_of (List.all_eq_true.mp key k (List.mem_range.mpr (by omega)))
