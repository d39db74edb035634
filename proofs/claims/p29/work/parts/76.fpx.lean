/-! ===== what the law asks of brokenShare ===== -/
theorem sh_le1 {b g : Nat} (h1 : 1 ≤ b) (h2 : b ≤ g) (hg : g < 2 ^ 31) : ∃ E m, 992 ≤ E ∧ E ≤ 1023 ∧ m < 2 ^ 52 ∧ E * 2 ^ 52 + m ≤ 1023 * 2 ^ 52 ∧ FP.ddiv (FP.i2d (nI b)) (FP.i2d (nI g)) = dN E m := by
  obtain ⟨E, m, e1, e2, e3, e4⟩ := sh_dN h1 h2 hg
  refine ⟨E, m, e1, e2, e3, ?_, e4⟩
  have hv := sh_val (b := b) (by omega) hg (by omega)
  rw [e4] at hv
  have hn : FP.Core.decode FP.Core.b64 (dN E m).toNat = FP.Core.roundRatio FP.Core.b64 false b g 0 := hv
  have t1 : FP.Core.b64.tails = 2 ^ 52 := rfl
  have t2 : (0 - FP.Core.b64.qmin).toNat = 52 + (1023 - 1) := by decide
  have t3 : (FP.Core.b64.qmin - FP.Core.b64.qmin).toNat = 0 := by decide
  have up := FP.Core.mag_le (m := 1023 * FP.Core.b64.tails) (e0 := FP.Core.b64.qmin) FP.Core.good_b64 hn (by omega) (Int.le_refl _) (by decide) (by
    rw [FP.Core.unitsOf_start (by decide)]
    unfold FP.Core.inUnits
    rw [t1, t2, t3, ← Nat.pow_add, Nat.pow_zero, Nat.mul_one, Nat.mul_comm]
    exact Nat.mul_le_mul_left _ h2)
  rw [FP.Core.mag_toNat64] at up
  have up2 : (dN E m).toNat % 2 ^ 63 ≤ 1023 * 2 ^ 52 := up
  rw [dN_toNat (by omega) e3] at up2
  omega
theorem z_nan : FP.Core.val64 FP.dconst0 ≠ .nan := by decide +kernel
theorem z_key : FP.Core.dkey FP.dconst0 = 0 := by decide +kernel
theorem bs_0 {b g : Nat} (h : b ≤ g) (hg : g < 2 ^ 31) : Op.cmpValue (FP.dcmp (bsF b g) FP.dconst0) .l = 0 ↔ b = 0 := by
  unfold bsF
  by_cases z : nI g = 0
  · rw [if_pos z]
    have z2 := (n_e0 (by omega)).mp z
    have e : FP.dcmp FP.dconst0 FP.dconst0 = some .eq := (FP.Core.dcmp_eq_key z_nan z_nan).mpr rfl
    rw [e]
    exact ⟨fun _ => by omega, fun _ => rfl⟩
  · rw [if_neg z]
    have hg0 : 0 < g := Nat.pos_of_ne_zero fun e => z (by rw [e]; rfl)
    by_cases y : b = 0
    · subst y
      rw [sh_0 hg hg0]
      have e : FP.dcmp 0 FP.dconst0 = some .eq := (FP.Core.dcmp_eq_key z_nan z_nan).mpr rfl
      rw [e]
      exact ⟨fun _ => rfl, fun _ => rfl⟩
    · obtain ⟨E, m, e1, e2, e3, -, e4⟩ := sh_le1 (show 1 ≤ b by omega) h hg
      rw [e4, dN_pos (by omega) (by omega) e3]
      exact ⟨fun q => absurd q (by decide), fun q => absurd q y⟩
theorem bs_1 {b g : Nat} (h : b ≤ g) (hg : g < 2 ^ 31) : ¬ 0 < Op.cmpValue (FP.dcmp (bsF b g) FP.dconst1) .g := by
  unfold bsF
  have z1 : FP.dcmp FP.dconst0 FP.dconst1 = some .lt := by
    refine (FP.Core.dcmp_lt_key z_nan one_nan).mpr ?_
    rw [z_key, one_key]
    decide
  by_cases z : nI g = 0
  · rw [if_pos z, z1]
    decide
  · rw [if_neg z]
    have hg0 : 0 < g := Nat.pos_of_ne_zero fun e => z (by rw [e]; rfl)
    by_cases y : b = 0
    · subst y
      rw [sh_0 hg hg0]
      have e : FP.dcmp 0 FP.dconst1 = some .lt := z1
      rw [e]
      decide
    · obtain ⟨E, m, e1, e2, e3, e5, e4⟩ := sh_le1 (show 1 ≤ b by omega) h hg
      rw [e4]
      have hno : ¬ FP.dcmp (dN E m) FP.dconst1 = some .gt := fun q => by
        have k := (FP.Core.dcmp_gt_key (dN_nan (by omega) (by omega) e3) one_nan).mp q
        rw [one_key, dN_key (by omega) e3] at k
        omega
      have hnn : FP.dcmp (dN E m) FP.dconst1 ≠ none := fun q => by
        have k1 : ¬ FP.Core.dkey (dN E m) < FP.Core.dkey FP.dconst1 := fun w => by
          have w2 : FP.dcmp (dN E m) FP.dconst1 = some .lt := (FP.Core.dcmp_lt_key (dN_nan (by omega) (by omega) e3) one_nan).mpr w
          rw [w2] at q
          exact nomatch q
        have k2 : ¬ FP.Core.dkey (dN E m) = FP.Core.dkey FP.dconst1 := fun w => by
          have w2 : FP.dcmp (dN E m) FP.dconst1 = some .eq := (FP.Core.dcmp_eq_key (dN_nan (by omega) (by omega) e3) one_nan).mpr w
          rw [w2] at q
          exact nomatch q
        have k3 : ¬ FP.Core.dkey FP.dconst1 < FP.Core.dkey (dN E m) := fun w => by
          have w2 : FP.dcmp (dN E m) FP.dconst1 = some .gt := (FP.Core.dcmp_gt_key (dN_nan (by omega) (by omega) e3) one_nan).mpr w
          rw [w2] at q
          exact nomatch q
        omega
      cases hc : FP.dcmp (dN E m) FP.dconst1 with
      | none => exact absurd hc hnn
      | some o =>
        cases o with
        | gt => exact absurd hc hno
        | eq => decide
        | lt => decide
/-- a share is as large as itself -/
theorem ws_self {k : Nat} (h : k ≤ 132) : Op.cmpValue (FP.fcmp (wsF k) (wsF k)) .l = 0 := by
  have key : (List.range 133).all (fun k => decide (Op.cmpValue (FP.fcmp (wsF k) (wsF k)) .l = 0)) = true := by decide +kernel
  exact of_decide_eq_true (List.all_eq_true.mp key k (List.mem_range.mpr (by omega)))
