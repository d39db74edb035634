/-! floating point: doubles by their bits -/
def dN (E m : Nat) : UInt64 := UInt64.ofNat (FP.Core.assemble FP.Core.b64 false E m)
theorem dN_eq (E m : Nat) : FP.Core.assemble FP.Core.b64 false E m = E * 2 ^ 52 + m := by
  show (0 * FP.Core.b64.exps + E) * FP.Core.b64.tails + m = E * 2 ^ 52 + m
  rw [Nat.zero_mul, Nat.zero_add]
  rfl
theorem dN_toNat {E m : Nat} (hE : E < 2047) (hm : m < 2 ^ 52) : (dN E m).toNat = E * 2 ^ 52 + m := by
  unfold dN
  rw [dN_eq, UInt64.toNat_ofNat_of_lt']
  show E * 2 ^ 52 + m < 2 ^ 64
  omega
theorem dN_val {E m : Nat} (h1 : 1 ≤ E) (hE : E < 2047) (hm : m < 2 ^ 52) : FP.Core.val64 (dN E m) = .fin false (2 ^ 52 + m) ((E : Int) - 1075) := by
  unfold FP.Core.val64
  rw [dN_toNat hE hm, ← dN_eq, FP.Core.decode_assemble _ _ _ _ (show E < FP.Core.b64.exps from (by show E < 2048; omega)) (show m < FP.Core.b64.tails from hm)]
  rw [if_neg (show ¬ E = FP.Core.b64.exps - 1 from (by show ¬ E = 2047; omega)), if_neg (by omega)]
  have e : FP.Core.b64.qmin + ((E : Int) - 1) = (E : Int) - 1075 := by
    show (-1074 : Int) + ((E : Int) - 1) = (E : Int) - 1075
    omega
  rw [e]
  rfl
theorem dN_nan {E m : Nat} (h1 : 1 ≤ E) (hE : E < 2047) (hm : m < 2 ^ 52) : FP.Core.val64 (dN E m) ≠ .nan := by
  rw [dN_val h1 hE hm]
  exact nofun
theorem n64_of {x : UInt64} (h : FP.Core.val64 x ≠ .nan) : vf_n64 x := by
  have e := (FP.Core.ne_nan x).mp h
  show x &&& 0x7fffffffffffffff ≤ 0x7ff0000000000000
  rw [UInt64.le_iff_toNat_le, UInt64.toNat_and]
  have e2 : (0x7fffffffffffffff : UInt64).toNat = 2 ^ 63 - 1 := by decide
  rw [e2, Nat.and_two_pow_sub_one_eq_mod]
  exact e
theorem dN_dbl {E m : Nat} (h1 : 1 ≤ E) (hE : E < 2046) (hm : m < 2 ^ 52) : FP.dmul (dN E m) 4611686018427387904 = dN (E + 1) m := by
  have v2 : FP.Core.val64 4611686018427387904 = .fin false (2 ^ 52) (-51) := by decide +kernel
  have hf : FP.Core.fits FP.Core.b64 (.fin false (2 ^ 52 + m) (((E + 1 : Nat) : Int) - 1075)) := by
    rw [← dN_val (by omega) (by omega) hm]
    exact FP.Core.val64_fits _
  have key : FP.Core.val64 (FP.Core.dmul (dN E m) 4611686018427387904) = FP.Core.val64 (dN (E + 1) m) := by
    rw [FP.Core.val64_dmul, dN_val h1 (by omega) hm, v2, dN_val (by omega) (by omega) hm]
    show FP.Core.roundRatio FP.Core.b64 false ((2 ^ 52 + m) * 2 ^ 52) 1 ((E : Int) - 1075 + -51) = _
    refine FP.Core.roundRatio_exact FP.Core.good_b64 (by decide) hf ?_
    have a1 : ((E : Int) - 1075 + -51 - (((E + 1 : Nat) : Int) - 1075)).toNat = 0 := by omega
    have a2 : (((E + 1 : Nat) : Int) - 1075 - ((E : Int) - 1075 + -51)).toNat = 52 := by omega
    rw [a1, a2, Nat.pow_zero, Nat.mul_one, Nat.mul_one]
  exact FP.Core.val64_inj (by rw [key]; exact dN_nan (by omega) (by omega) hm) key
theorem dN_key {E m : Nat} (hE : E < 2047) (hm : m < 2 ^ 52) : FP.Core.dkey (dN E m) = ((E * 2 ^ 52 + m : Nat) : Int) := by
  unfold FP.Core.dkey
  rw [dN_toNat hE hm, if_neg (by omega)]
theorem one_key : FP.Core.dkey FP.dconst1 = ((1023 * 2 ^ 52 : Nat) : Int) := by decide +kernel
theorem one_nan : FP.Core.val64 FP.dconst1 ≠ .nan := by decide +kernel
theorem dN_lt {E m : Nat} (h1 : 1 ≤ E) (hE : E < 1023) (hm : m < 2 ^ 52) : FP.dcmp (dN E m) FP.dconst1 = some .lt := by
  refine (FP.Core.dcmp_lt_key (dN_nan h1 (by omega) hm) one_nan).mpr ?_
  rw [dN_key (by omega) hm, one_key]
  omega
theorem dN_ge {m : Nat} (hm : m < 2 ^ 52) : FP.dcmp (dN 1023 m) FP.dconst1 = some .gt ∨ FP.dcmp (dN 1023 m) FP.dconst1 = some .eq := by
  by_cases e : m = 0
  · refine Or.inr ((FP.Core.dcmp_eq_key (dN_nan (by decide) (by decide) hm) one_nan).mpr ?_)
    rw [dN_key (by decide) hm, one_key]
    omega
  · refine Or.inl ((FP.Core.dcmp_gt_key (dN_nan (by decide) (by decide) hm) one_nan).mpr ?_)
    rw [dN_key (by decide) hm, one_key]
    omega
theorem dN_pos {E m : Nat} (h1 : 1 ≤ E) (hE : E < 2047) (hm : m < 2 ^ 52) : FP.dcmp (dN E m) FP.dconst0 = some .gt := by
  have z1 : FP.Core.val64 FP.dconst0 ≠ .nan := by decide +kernel
  have z2 : FP.Core.dkey FP.dconst0 = 0 := by decide +kernel
  refine (FP.Core.dcmp_gt_key (dN_nan h1 hE hm) z1).mpr ?_
  rw [dN_key hE hm, z2]
  omega
/-- what is left of the mantissa -/
theorem dN_man {m : Nat} (hm : m < 2 ^ 52) : vf_n64 (FP.dsub (dN 1023 m) FP.dconst1) ∧ vf_n64 (FP.dmul (FP.dsub (dN 1023 m) FP.dconst1) (FP.l2d 4503599627370496)) ∧ FP.d2l (FP.dmul (FP.dsub (dN 1023 m) FP.dconst1) (FP.l2d 4503599627370496)) = Int64.ofNat m := by
  have v1 : FP.Core.val64 FP.dconst1 = .fin false (2 ^ 52) (-52) := by decide +kernel
  have v3 : FP.Core.val64 (FP.l2d 4503599627370496) = .fin false (2 ^ 52) 0 := by decide +kernel
  have hy : FP.Core.val64 (FP.dsub (dN 1023 m) FP.dconst1) = FP.Core.round FP.Core.b64 (.fin false m (-52)) := by
    show FP.Core.val64 (FP.Core.dsub (dN 1023 m) FP.dconst1) = _
    rw [FP.Core.val64_dsub, dN_val (by decide) (by decide) hm, v1]
    have e : FP.Core.exactSum (.fin false (2 ^ 52 + m) (((1023 : Nat) : Int) - 1075)) (FP.Core.negate (.fin false (2 ^ 52) (-52))) = .fin false m (-52) := by
      show FP.Core.Datum.fin (FP.Core.sumSign false true (FP.Core.sumUnits false (2 ^ 52 + m) (((1023 : Nat) : Int) - 1075) true (2 ^ 52) (-52) (min (((1023 : Nat) : Int) - 1075) (-52)))) (FP.Core.sumUnits false (2 ^ 52 + m) (((1023 : Nat) : Int) - 1075) true (2 ^ 52) (-52) (min (((1023 : Nat) : Int) - 1075) (-52))).natAbs (min (((1023 : Nat) : Int) - 1075) (-52)) = _
      have e1 : min (((1023 : Nat) : Int) - 1075) (-52) = -52 := by decide
      have e2 : ((1023 : Nat) : Int) - 1075 = -52 := by decide
      rw [e1, e2]
      have e3 : FP.Core.sumUnits false (2 ^ 52 + m) (-52) true (2 ^ 52) (-52) (-52) = (m : Int) := by
        show (((2 ^ 52 + m) * 1 : Nat) : Int) + -((2 ^ 52 * 1 : Nat) : Int) = (m : Int)
        omega
      rw [e3]
      have e4 : FP.Core.sumSign false true (m : Int) = false := by
        unfold FP.Core.sumSign
        split
        · rfl
        · exact decide_eq_false (by omega)
      rw [e4]
      rfl
    rw [e]
  obtain ⟨c', q', hr, hu⟩ := FP.Core.round_exact FP.Core.good_b64 false (c := m) (q := -52) (show m < 2 ^ 53 by omega) (by decide) (by decide)
  rw [hr] at hy
  have hfit := FP.Core.val64_fits (FP.dsub (dN 1023 m) FP.dconst1)
  rw [hy] at hfit
  have hq : (-1074 : Int) ≤ q' := hfit.2.1
  have hu2 : c' * 2 ^ (q' + 1074).toNat = m * 2 ^ 1022 := by
    have a : FP.Core.inUnits c' q' FP.Core.b64.qmin = c' * 2 ^ (q' + 1074).toNat := by
      show c' * 2 ^ (q' - -1074).toNat = _
      have : q' - -1074 = q' + 1074 := by omega
      rw [this]
    have b : FP.Core.inUnits m (-52) FP.Core.b64.qmin = m * 2 ^ 1022 := rfl
    rw [← a, ← b]
    exact hu
  have hw : FP.Core.Whole (m : Int) (.fin false (c' * 2 ^ 52) (q' + 0)) := by
    show (((c' * 2 ^ 52) * 2 ^ (q' + 0).toNat : Nat) : Int) = (m : Int) * ((2 ^ (-(q' + 0)).toNat : Nat) : Int)
    rw [← Int.natCast_mul]
    congr 1
    have hp : 0 < 2 ^ 1022 := Nat.two_pow_pos 1022
    apply Nat.eq_of_mul_eq_mul_right hp
    rcases Int.le_total 0 q' with h | h
    · have t1 : (q' + 0).toNat = q'.toNat := by omega
      have t2 : (-(q' + 0)).toNat = 0 := by omega
      have t3 : (q' + 1074).toNat = q'.toNat + (52 + 1022) := by omega
      rw [t1, t2, Nat.pow_zero, Nat.mul_one, ← hu2, t3, Nat.pow_add, Nat.pow_add]
      simp only [Nat.mul_assoc, Nat.mul_comm, Nat.mul_left_comm]
    · have t1 : (q' + 0).toNat = 0 := by omega
      have t2 : (-(q' + 0)).toNat = (-q').toNat := by omega
      have t3 : 52 + 1022 = (q' + 1074).toNat + (-q').toNat := by omega
      have t4 : c' * 2 ^ 52 * 2 ^ 1022 = c' * 2 ^ (q' + 1074).toNat * 2 ^ (-q').toNat := by
        rw [Nat.mul_assoc, ← Nat.pow_add, t3, Nat.pow_add, Nat.mul_assoc]
      rw [t1, t2, Nat.pow_zero, Nat.mul_one, t4, hu2]
      simp only [Nat.mul_assoc, Nat.mul_comm, Nat.mul_left_comm]
  have hz : FP.Core.val64 (FP.dmul (FP.dsub (dN 1023 m) FP.dconst1) (FP.l2d 4503599627370496)) = FP.Core.round FP.Core.b64 (.fin false (c' * 2 ^ 52) (q' + 0)) := by
    show FP.Core.val64 (FP.Core.dmul (FP.dsub (dN 1023 m) FP.dconst1) (FP.l2d 4503599627370496)) = _
    rw [FP.Core.val64_dmul, hy, v3]
    rfl
  have hw2 : FP.Core.DInt (m : Int) (FP.dmul (FP.dsub (dN 1023 m) FP.dconst1) (FP.l2d 4503599627370496)) := by
    unfold FP.Core.DInt
    rw [hz]
    exact FP.Core.whole_round FP.Core.good_b64 FP.Core.wide_b64 (show (m : Int).natAbs ≤ 2 ^ 53 by omega) hw
  refine ⟨n64_of (by rw [hy]; exact nofun), n64_of (FP.Core.DInt_ne_nan hw2), ?_⟩
  have hm2 : (Int64.ofNat m).toInt = (m : Int) := Int64.toInt_ofNat_of_lt (by omega)
  exact FP.Core.d2l_int (by rw [hm2]; exact hw2)
