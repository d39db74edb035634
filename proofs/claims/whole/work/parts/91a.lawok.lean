theorem turnE_c (x : Int32) : turnE x = 0 ∨ turnE x = 11 := by
  unfold turnE
  repeat' split
  all_goals simp
theorem knockE_c (N : List Nat) (x y : Int32) : knockE N x y = 0 ∨ knockE N x y = 10 ∨ knockE N x y = 12 := by
  unfold knockE
  repeat' split
  all_goals simp
theorem putE_c (N : List Nat) (x y : Int32) : putE N x y = 0 ∨ putE N x y = 10 ∨ putE N x y = 12 := by
  unfold putE
  repeat' split
  all_goals simp
theorem setE_c (x y : Int32) : setE x y = 0 ∨ setE x y = 10 ∨ setE x y = 11 := by
  unfold setE
  repeat' split
  all_goals simp
theorem turnE_z {x : Int32} (h : turnE x = 0) : ∃ t, t < 2 ∧ x = nI t := by
  unfold turnE at h
  by_cases z : x < 0 ∨ nI 1 < x
  · rw [if_pos z] at h; cases h
  · obtain ⟨j, hj, rfl⟩ := nI_of2 (M := nI 1) (n := 1) (by decide) (fun q => z (Or.inl q)) (Int32.not_lt.mp fun q => z (Or.inr q))
    exact ⟨j, by omega, rfl⟩
theorem turn_ok {q : Nat} {N : List Nat} {x : Int32} (ok : okG q N) (h : turnE x = 0) : nI (N.getD 1 0) = nI ((mOf N).getD 1 0) ∧ mOf (N.set 1 x.toNatClampNeg) = (mOf N).set 1 x.toNatClampNeg ∧ okG (q + 6100) (N.set 1 x.toNatClampNeg) := by
  obtain ⟨t, ht, rfl⟩ := turnE_z h
  have e1 : (nI t).toNatClampNeg = t := n_cl (by omega)
  rw [e1]
  obtain ⟨o1, o2, o3⟩ := ok
  refine ⟨rfl, set1_rel o1.1 t, st_1 o1 ht, ?_, ?_⟩
  · rw [gs_ne (by decide)]; exact o2
  · rw [gone_set (by decide)]; omega
theorem knock_ok {q : Nat} {N : List Nat} {x y : Int32} (ok : okG q N) (h : knockE N x y = 0) : nI (pop (fallM (N.getD 0 0 &&& ((1 <<< (rsN x.toNatClampNeg + y.toNatClampNeg)) ^^^ 4294967295)))) = nI (pop ((mOf N).getD 0 0) - pop (mfN (kncU ((mOf N).getD 0 0) x.toNatClampNeg y.toNatClampNeg))) - nI 1 ∧
    mOf (knockN N x.toNatClampNeg y.toNatClampNeg) = kncM (mOf N) x.toNatClampNeg y.toNatClampNeg ∧ okG (q + 6100) (knockN N x.toNatClampNeg y.toNatClampNeg) := by
  obtain ⟨o1, o2, o3⟩ := id ok
  unfold knockE at h
  by_cases z1 : isPlaceB x y = false
  · rw [if_pos z1] at h; cases h
  rw [if_neg z1] at h
  obtain ⟨r, p, hr, hp, rfl, rfl⟩ := place_of (by simpa using z1)
  have e1 : (nI r).toNatClampNeg = r := n_cl (by omega)
  have e2 : (nI p).toNatClampNeg = p := n_cl (by omega)
  rw [e1, e2] at h ⊢
  by_cases z2 : hasN (N.getD 0 0) r p = true
  · obtain ⟨k1, k2, k3, k4⟩ := rK o2 hr hp z2
    refine ⟨?_, knock_rel o1 o2 hr hp z2, okG_le (okG_knock ok hr hp z2) (by omega)⟩
    have e0 : (mOf N).getD 0 0 = N.getD 0 0 := rfl
    rw [e0]
    have hp15 := pop15 (N.getD 0 0)
    have h5 : pop (N.getD 0 0) - pop (mfN (kncU (N.getD 0 0) r p)) = pop (fallM (kncU (N.getD 0 0) r p)) + 1 := by omega
    rw [h5, n_sub (by omega)]
    rfl
  · rw [if_neg z2] at h; cases h
theorem put_ok {q : Nat} {N : List Nat} {x y : Int32} (ok : okG q N) (h : putE N x y = 0) : nI (pop (N.getD 0 0 ||| 1 <<< (rsN x.toNatClampNeg + y.toNatClampNeg))) = nI (pop ((mOf N).getD 0 0 ||| 1 <<< (rsN x.toNatClampNeg + y.toNatClampNeg))) ∧
    mOf (N.set 0 (N.getD 0 0 ||| 1 <<< (rsN x.toNatClampNeg + y.toNatClampNeg))) = (mOf N).set 0 ((mOf N).getD 0 0 ||| 1 <<< (rsN x.toNatClampNeg + y.toNatClampNeg)) ∧ okG (q + 6100) (N.set 0 (N.getD 0 0 ||| 1 <<< (rsN x.toNatClampNeg + y.toNatClampNeg))) := by
  unfold putE at h
  by_cases z1 : isPlaceB x y = false
  · rw [if_pos z1] at h; cases h
  rw [if_neg z1] at h
  obtain ⟨r, p, hr, hp, rfl, rfl⟩ := place_of (by simpa using z1)
  have e1 : (nI r).toNatClampNeg = r := n_cl (by omega)
  have e2 : (nI p).toNatClampNeg = p := n_cl (by omega)
  rw [e1, e2] at h ⊢
  by_cases z2 : hasRoomN (N.getD 0 0) r p = true
  · exact ⟨rfl, set0_rel ok.1.1 _, okG_le (okG_put ok hr hp z2) (by omega)⟩
  · rw [if_neg z2] at h; cases h
theorem set_ok {q : Nat} {N : List Nat} {x y : Int32} (ok : okG q N) (h : setE x y = 0) : nI (N.getD (3 + x.toNatClampNeg) 0) = nI ((mOf N).getD (6 + x.toNatClampNeg) 0) ∧ mOf (N.set (3 + x.toNatClampNeg) y.toNatClampNeg) = (mOf N).set (6 + x.toNatClampNeg) y.toNatClampNeg ∧ okG (q + 6100) (N.set (3 + x.toNatClampNeg) y.toNatClampNeg) := by
  unfold setE at h
  by_cases z1 : isSettingB x = false
  · rw [if_pos z1] at h; cases h
  rw [if_neg z1] at h
  by_cases z2 : y < setLo x ∨ setHi x < y
  · rw [if_pos z2] at h; cases h
  obtain ⟨k, hk, rfl⟩ := set_of (by simpa using z1)
  have e1 : (nI k).toNatClampNeg = k := n_cl (by omega)
  rw [e1]
  obtain ⟨⟨o1, o2, o3, o4, o5, o6, o7⟩, p2, p3⟩ := ok
  have hv : ∃ v, y = nI v ∧ v < 4 ∧ (k = 0 → 1 ≤ v) ∧ (k ≠ 0 → v < 2) := by
    have l1 : ¬ y < setLo (nI k) := fun z => z2 (Or.inl z)
    have l2 : y ≤ setHi (nI k) := Int32.not_lt.mp fun z => z2 (Or.inr z)
    have hk3 : k = 0 ∨ k = 1 ∨ k = 2 := by omega
    rcases hk3 with rfl | rfl | rfl
    · have l1 : ¬ y < nI 1 := l1
      have l2 : y ≤ nI 3 := l2
      obtain ⟨v, hv, rfl⟩ := nI_of2 (M := nI 3) (n := 3) (by decide) (fun z => l1 (Int32.lt_trans z (by decide))) l2
      rw [nI_ltI (by omega) (by omega)] at l1
      exact ⟨v, rfl, by omega, fun _ => by omega, fun z => absurd rfl z⟩
    · have l1 : ¬ y < nI 0 := l1
      have l2 : y ≤ nI 1 := l2
      obtain ⟨v, hv, rfl⟩ := nI_of2 (M := nI 1) (n := 1) (by decide) l1 l2
      exact ⟨v, rfl, by omega, fun z => by omega, fun _ => by omega⟩
    · have l1 : ¬ y < nI 0 := l1
      have l2 : y ≤ nI 1 := l2
      obtain ⟨v, hv, rfl⟩ := nI_of2 (M := nI 1) (n := 1) (by decide) l1 l2
      exact ⟨v, rfl, by omega, fun z => by omega, fun _ => by omega⟩
  obtain ⟨v, rfl, hv4, hv0, hv2⟩ := hv
  have e2 : (nI v).toNatClampNeg = v := n_cl (by omega)
  rw [e2]
  have g0 : (N.set (3 + k) v).getD 0 0 = N.getD 0 0 := gs_ne (by omega)
  have g1 : (N.set (3 + k) v).getD 1 0 = N.getD 1 0 := gs_ne (by omega)
  refine ⟨by rw [mOf_S N k hk], setS_rel o1 k v hk, ⟨List.length_set.trans o1, by rw [g0]; exact o2, by rw [g1]; exact o3, ?_⟩, by rw [g0]; exact p2, by rw [gone_set (by omega)]; omega⟩
  have hk3 : k = 0 ∨ k = 1 ∨ k = 2 := by omega
  rcases hk3 with rfl | rfl | rfl
  · rw [gs_eq (i := 3 + 0) (by omega), gs_ne (i := 3 + 0) (j := 4) (by decide), gs_ne (i := 3 + 0) (j := 5) (by decide)]
    exact ⟨hv0 rfl, by omega, o6, o7⟩
  · rw [gs_eq (i := 3 + 1) (by omega), gs_ne (i := 3 + 1) (j := 3) (by decide), gs_ne (i := 3 + 1) (j := 5) (by decide)]
    exact ⟨o4, o5, hv2 (by decide), o7⟩
  · rw [gs_eq (i := 3 + 2) (by omega), gs_ne (i := 3 + 2) (j := 3) (by decide), gs_ne (i := 3 + 2) (j := 4) (by decide)]
    exact ⟨o4, o5, o6, hv2 (by decide)⟩
