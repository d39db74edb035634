/-! floating point: a quotient of two whole numbers -/
theorem sh_n64 {b g : Int32} (hg : g ≠ 0) : vf_n64 (FP.ddiv (FP.i2d b) (FP.i2d g)) := by
  have hz : ¬ FP.Core.DZero (FP.i2d g) := fun q => FP.Core.i2d_ne_zero hg ((FP.Core.zero_bits2 _).mp q)
  exact n64_of ((FP.Core.notNaN_iff _).mp (FP.Core.ddiv_out (FP.Core.DFin.notNaN (FP.Core.i2d_fin b)) (FP.Core.i2d_fin g) hz))
theorem i2d_val {a : Nat} (h : a < 2 ^ 31) : ∃ c q, FP.Core.val64 (FP.i2d (nI a)) = .fin false c q ∧ c * 2 ^ q.toNat = a * 2 ^ (-q).toNat := by
  have hw := FP.Core.i2d_int (nI a)
  rw [nI_toInt h] at hw
  have hv : FP.Core.val64 (FP.i2d (nI a)) = FP.Core.roundRatio FP.Core.b64 false a 1 0 := by
    show FP.Core.val64 (FP.Core.i2d (nI a)) = _
    rw [FP.Core.val64_i2d, nI_toInt h]
    show FP.Core.roundRatio FP.Core.b64 (decide ((a : Int) < 0)) (a : Int).natAbs 1 0 = _
    rw [decide_eq_false (by omega)]
    rfl
  obtain ⟨s, c, q, e⟩ := FP.Core.i2d_fin (nI a)
  have hs := FP.Core.sgn_roundRatio FP.Core.b64 false a 1 0
  have e' : FP.Core.val64 (FP.i2d (nI a)) = .fin s c q := e
  rw [← hv, e'] at hs
  have hs2 : s = false := hs
  subst hs2
  refine ⟨c, q, e, ?_⟩
  have hw2 : FP.Core.Whole (a : Int) (FP.Core.val64 (FP.i2d (nI a))) := hw
  rw [e'] at hw2
  exact FP.Core.whole_natAbs hw2
theorem sh_val {b g : Nat} (hb : b < 2 ^ 31) (hg : g < 2 ^ 31) (h0 : 0 < g) : FP.Core.val64 (FP.ddiv (FP.i2d (nI b)) (FP.i2d (nI g))) = FP.Core.roundRatio FP.Core.b64 false b g 0 := by
  obtain ⟨c, q, e1, v1⟩ := i2d_val hb
  obtain ⟨c2, q2, e2, v2⟩ := i2d_val hg
  have p1 := Nat.two_pow_pos q2.toNat
  have p2 := Nat.two_pow_pos (-q2).toNat
  have hc2 : 0 < c2 := by
    apply Nat.pos_of_ne_zero
    rintro rfl
    rw [Nat.zero_mul] at v2
    have := Nat.mul_pos h0 p2
    omega
  show FP.Core.val64 (FP.Core.ddiv (FP.i2d (nI b)) (FP.i2d (nI g))) = _
  rw [FP.Core.val64_ddiv, e1, e2]
  show (if c2 = 0 then (if c = 0 then FP.Core.Datum.nan else .inf (false != false)) else FP.Core.roundRatio FP.Core.b64 (false != false) c c2 (q - q2)) = _
  rw [if_neg (by omega)]
  show FP.Core.roundRatio FP.Core.b64 false c c2 (q - q2) = _
  refine FP.Core.roundRatio_congr hc2 h0 ?_
  have k : 0 < 2 ^ (q.toNat) * 2 ^ (-q).toNat * 2 ^ q2.toNat * 2 ^ (-q2).toNat := Nat.mul_pos (Nat.mul_pos (Nat.mul_pos (Nat.two_pow_pos _) (Nat.two_pow_pos _)) p1) p2
  have x1 : (q - q2 - 0).toNat + ((-q).toNat + q2.toNat) = (0 - (q - q2)).toNat + (q.toNat + (-q2).toNat) := by omega
  have hp : 0 < 2 ^ ((-q).toNat + q2.toNat + (q.toNat + (-q2).toNat)) := Nat.two_pow_pos _
  apply Nat.eq_of_mul_eq_mul_right (show 0 < 2 ^ q.toNat * 2 ^ (-q2).toNat * (2 ^ (-q).toNat * 2 ^ q2.toNat) from Nat.mul_pos (Nat.mul_pos (Nat.two_pow_pos _) p2) (Nat.mul_pos (Nat.two_pow_pos _) p1))
  have y1 : 2 ^ (q - q2 - 0).toNat * (2 ^ (-q).toNat * 2 ^ q2.toNat) = 2 ^ (0 - (q - q2)).toNat * (2 ^ q.toNat * 2 ^ (-q2).toNat) := by
    rw [← Nat.pow_add, ← Nat.pow_add, ← Nat.pow_add, ← Nat.pow_add, x1]
  have z1 : c * g * 2 ^ (q - q2 - 0).toNat * (2 ^ q.toNat * 2 ^ (-q2).toNat * (2 ^ (-q).toNat * 2 ^ q2.toNat)) = (c * 2 ^ q.toNat) * (g * 2 ^ (-q2).toNat) * (2 ^ (q - q2 - 0).toNat * (2 ^ (-q).toNat * 2 ^ q2.toNat)) := by
    simp only [Nat.mul_assoc, Nat.mul_comm, Nat.mul_left_comm]
  have z2 : b * c2 * 2 ^ (0 - (q - q2)).toNat * (2 ^ q.toNat * 2 ^ (-q2).toNat * (2 ^ (-q).toNat * 2 ^ q2.toNat)) = (b * 2 ^ (-q).toNat) * (c2 * 2 ^ q2.toNat) * (2 ^ (0 - (q - q2)).toNat * (2 ^ q.toNat * 2 ^ (-q2).toNat)) := by
    simp only [Nat.mul_assoc, Nat.mul_comm, Nat.mul_left_comm]
  rw [z1, z2, y1, v1, v2]
theorem sh_0 {g : Nat} (hg : g < 2 ^ 31) (h0 : 0 < g) : FP.ddiv (FP.i2d (nI 0)) (FP.i2d (nI g)) = 0 := by
  have h := sh_val (b := 0) (by decide) hg h0
  have e : FP.Core.roundRatio FP.Core.b64 false 0 g 0 = .fin false 0 FP.Core.b64.qmin := rfl
  have e0 : FP.Core.val64 0 = .fin false 0 FP.Core.b64.qmin := by decide +kernel
  rw [e, ← e0] at h
  exact FP.Core.val64_inj (by rw [h, e0]; exact nofun) h
theorem sh_dN {b g : Nat} (h1 : 1 ≤ b) (h2 : b ≤ g) (hg : g < 2 ^ 31) : ∃ E m, 992 ≤ E ∧ E ≤ 1023 ∧ m < 2 ^ 52 ∧ FP.ddiv (FP.i2d (nI b)) (FP.i2d (nI g)) = dN E m := by
  have hv := sh_val (b := b) (by omega) hg (by omega)
  generalize hx : FP.ddiv (FP.i2d (nI b)) (FP.i2d (nI g)) = x at hv ⊢
  have hn : FP.Core.decode FP.Core.b64 x.toNat = FP.Core.roundRatio FP.Core.b64 false b g 0 := hv
  have t1 : FP.Core.b64.tails = 2 ^ 52 := rfl
  have t2 : (0 - FP.Core.b64.qmin).toNat = 52 + (1023 - 1) := by decide
  have t3 : (FP.Core.b64.qmin - FP.Core.b64.qmin).toNat = 0 := by decide
  have up := FP.Core.mag_le (m := 1023 * FP.Core.b64.tails) (e0 := FP.Core.b64.qmin) FP.Core.good_b64 hn (by omega) (Int.le_refl _) (by decide) (by
    rw [FP.Core.unitsOf_start (by decide)]
    unfold FP.Core.inUnits
    rw [t1, t2, t3, ← Nat.pow_add, Nat.pow_zero, Nat.mul_one, Nat.mul_comm]
    exact Nat.mul_le_mul_left _ h2)
  have lo := FP.Core.mag_ge (m := 992 * FP.Core.b64.tails) (e0 := FP.Core.b64.qmin) FP.Core.good_b64 hn (by omega) (Int.le_refl _) (by decide) (by decide) (by
    rw [FP.Core.unitsOf_start (by decide)]
    unfold FP.Core.inUnits
    rw [t1, t2, t3, ← Nat.pow_add, Nat.pow_zero, Nat.mul_one]
    calc 2 ^ (52 + (992 - 1)) * g ≤ 2 ^ (52 + (992 - 1)) * 2 ^ 31 := Nat.mul_le_mul_left _ (by omega)
      _ = 1 * 2 ^ (52 + (1023 - 1)) := by rw [← Nat.pow_add, Nat.one_mul]
      _ ≤ b * 2 ^ (52 + (1023 - 1)) := Nat.mul_le_mul_right _ h1)
  rw [FP.Core.mag_toNat64] at up lo
  have up2 : x.toNat % 2 ^ 63 ≤ 1023 * 2 ^ 52 := up
  have lo2 : 992 * 2 ^ 52 ≤ x.toNat % 2 ^ 63 := lo
  have hne : FP.Core.val64 x ≠ .nan := (FP.Core.ne_nan x).mpr (by omega)
  have hs := FP.Core.sgn_bits hne
  rw [hv, FP.Core.sgn_roundRatio] at hs
  have hs2 : ¬ 2 ^ 63 ≤ x.toNat := of_decide_eq_false hs.symm
  have hlt := x.toNat_lt
  refine ⟨x.toNat / 2 ^ 52, x.toNat % 2 ^ 52, by omega, by omega, Nat.mod_lt _ (by decide), ?_⟩
  apply UInt64.toNat.inj
  rw [dN_toNat (by omega) (Nat.mod_lt _ (by decide))]
  omega
