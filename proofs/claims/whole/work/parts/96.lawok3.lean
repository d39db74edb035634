def WC (code : Nat) (r : Int32) (N V S C : List Nat) (sv tl : Nat) (has : Bool) (g0 h0 : xH) : Option Value → xH → Prop := fun v h' => (code = 0 ∧ v = some (.int (nI 0)) ∧ ∃ P' k, h' = (hB N V S C P' sv tl has (g0 ++ k)).set 15 (3, [], [.long r.toInt64]) ∧ gOk P' (g0 ++ k)) ∨ (code ≠ 0 ∧ v = some (.int (nI code)) ∧ h' = h0)
theorem wV_cl {N V S C : List Nat} {sv tl : Nat} {has : Bool} {g0 h0 : xH} {E code : Nat} {r : Int32} {u : Value} (h15 : ∀ P' k, (hB N V S C P' sv tl has (g0 ++ k))[15]? = some (3, [], [u])) (he : E = 0 → code = 0) : wV (clQ N V S C sv tl has g0 E (some (.int r))) (WC code r N V S C sv tl has g0 h0) := fun v h' ⟨z, e1, P', g', e2, gk, k, e3⟩ => by
  subst e1 e3 e2
  exact ⟨r, [], u, rfl, h15 P' k, Or.inl ⟨he z, rfl, P', k, rfl, gk⟩⟩
theorem xo_1c {N V S C : List Nat} {sv tl : Nat} {has : Bool} {g0 h0 : xH} {E code : Nat} {r : Int32} {n : Nat} (hE : E = 0 ∨ E = n) (hc : cd1 E = code) : ∀ k h', Xo E h0 k h' → (k = n ∧ WC code r N V S C sv tl has g0 h0 (some (.int (nI 1))) h') := by
  rintro k h' ⟨z, e1, rfl⟩
  have e2 : E = n := hE.resolve_left z
  have e : code = 1 := by
    rw [← hc]
    unfold cd1
    rw [if_neg z]
  subst e
  exact ⟨e1.trans e2, Or.inr ⟨by decide, rfl, rfl⟩⟩
section L3
variable {q : Nat} {N V S C : List Nat} {P : List Value} {sv tl : Nat} {has : Bool} {B K' O D : List Nat} {laid : Int32} {many at' thr : Nat} {u : Int64} {g : xH}
/-- the told table is another one -/
theorem LJ_td (lj : LJ q N V S C P sv tl has B K' O D laid many at' thr u g) {D' : List Nat} {l' : Int32} (td : tdI l' D') {thr' : Nat} {u' : Int64} : LJ (q + 6100) N V S C P sv tl has B K' O D' l' many at' thr' u' g := by
  have g1 := LJ_g lj (N' := mOf N) (B' := B) (K2 := K') (T' := C) (O' := O) (D' := D') (laid' := l') (len' := tl) (st' := sv) (many' := many) (at2 := at') (thr' := thr') (isK' := has) (u' := u')
  obtain ⟨h1, h2, h3, h6, h9, -, -⟩ := LJ_le lj (Nat.le_add_right q 6100)
  exact ⟨h1, h2, h3, h6, h9, td, g1⟩
/-- more Plays -/
theorem LJ_pl (lj : LJ q N V S C P sv tl has B K' O D laid many at' thr u g) {P' : List Value} {k : xH} (gk : gOk P' (tl9 (mOf N) B K' C O D laid tl sv many at' thr has u (g ++ k))) {D' : List Nat} {l' : Int32} (td : tdI l' D') {thr' : Nat} {u' : Int64} : LJ (q + 6100) N V S C P' sv tl has B K' O D' l' many at' thr' u' (g ++ k) := by
  obtain ⟨h1, h2, h3, h6, h9, h10, -⟩ := LJ_le lj (Nat.le_add_right q 6100)
  exact ⟨h1, h2, h3, h6, h9, td, gOk_tl (mOf_len N) h2.2.1 h3.2.1 h9 h10.1 gk⟩
end L3
theorem cnt_heap {D D1 : List Nat} {laid l1 : Int32} {p : Prop} [Decidable p] {g2 : xH} (A : List Nat → Int32 → xH) (hD : tdI laid D) (h1 : tdI l1 D1) (h : g2 = if p then A D1 l1 else A D laid) : ∃ D' l', tdI l' D' ∧ g2 = A D' l' := by
  by_cases z : p
  · rw [if_pos z] at h; exact ⟨_, _, h1, h⟩
  · rw [if_neg z] at h; exact ⟨_, _, hD, h⟩
section O3
variable {q w : Nat} {N D : List Nat} {laid x : Int32}
theorem cnt_ok {sv : Nat} (ok : okG q N) (hD : tdI laid D) (hw : w < 132) (hm : N.getD 0 0 = gS w) (h : cntE x = 0) : cntR N sv x = mcoR (mOf N) (laD (mOf N) laid D) w sv x.toNatClampNeg ∧ True := by
  unfold cntE at h
  by_cases z : x = nI 0 ∨ x = nI 1 ∨ x = nI 2 ∨ x = nI 3 ∨ x = nI 4 ∨ x = nI 5 ∨ x = nI 6 ∨ x = nI 7 ∨ x = nI 8 ∨ x = nI 9
  · obtain ⟨k, hk, rfl⟩ : ∃ k, k < 10 ∧ x = nI k := by
      rcases z with h | h | h | h | h | h | h | h | h | h
      · exact ⟨0, by decide, h⟩
      · exact ⟨1, by decide, h⟩
      · exact ⟨2, by decide, h⟩
      · exact ⟨3, by decide, h⟩
      · exact ⟨4, by decide, h⟩
      · exact ⟨5, by decide, h⟩
      · exact ⟨6, by decide, h⟩
      · exact ⟨7, by decide, h⟩
      · exact ⟨8, by decide, h⟩
      · exact ⟨9, by decide, h⟩
    rw [n_cl (by omega)]
    exact ⟨cnt_rel ok.1 ok.2.1 hw hm (td_use (st_mOf ok.1) hD).1 hk, trivial⟩
  · rw [if_neg z] at h; cases h
theorem wins_ok (ok : okG q N) (hD : tdI laid D) (hw : w < 132) (hm : N.getD 0 0 = gS w) (h : turnE x = 0) : nI (if wonB (plN N) x.toNatClampNeg (N.getD 0 0) then 1 else 0) = nI ((laD (mOf N) laid D).getD (8 * w + 4 * x.toNatClampNeg) 0) ∧ True := by
  obtain ⟨t, ht, rfl⟩ := turnE_z h
  rw [n_cl (by omega), hm]
  exact ⟨congrArg nI (won_rel (td_use (st_mOf ok.1) hD).1 hw ht), trivial⟩
theorem length_ok (ok : okG q N) (hD : tdI laid D) (hw : w < 132) (hm : N.getD 0 0 = gS w) (h : turnE x = 0) : nI (if x = 0 then lonN (plN N) (N.getD 1 0) (N.getD 0 0) else shoN (plN N) (N.getD 1 0) (N.getD 0 0)) = nI ((laD (mOf N) laid D).getD (8 * w + 4 * (mOf N).getD 1 0 + (2 + x.toNatClampNeg)) 0) ∧ True := by
  obtain ⟨t, ht, rfl⟩ := turnE_z h
  rw [n_cl (by omega), hm]
  have h01 : t = 0 ∨ t = 1 := by omega
  rcases h01 with rfl | rfl
  · rw [if_pos (by decide)]
    exact ⟨congrArg nI (lon_rel (td_use (st_mOf ok.1) hD).1 hw ok.1.2.2.1), trivial⟩
  · rw [if_neg (by decide)]
    exact ⟨congrArg nI (sho_rel (td_use (st_mOf ok.1) hD).1 hw ok.1.2.2.1), trivial⟩
theorem pyr_ok (ok : okG q N) (hD : tdI laid D) (h : pyrE x = 0) : nI (pyrR N x) = nI (myL (laD (mOf N) laid D) x.toNatClampNeg 132 0 0) ∧ True := by
  unfold pyrE at h
  by_cases z : x = nI 0 ∨ x = nI 1 ∨ x = nI 2 ∨ x = nI 3
  · obtain ⟨k, hk, rfl⟩ : ∃ k, k < 4 ∧ x = nI k := by
      rcases z with h | h | h | h
      · exact ⟨0, by decide, h⟩
      · exact ⟨1, by decide, h⟩
      · exact ⟨2, by decide, h⟩
      · exact ⟨3, by decide, h⟩
    rw [n_cl (by omega)]
    exact ⟨congrArg nI (pyr_rel (td_use (st_mOf ok.1) hD).1 hk), trivial⟩
  · rw [if_neg z] at h; cases h
end O3
