/-! class and model: the same digest -/
theorem brk_e (N : List Nat) : (mOf N).getD 4 0 = brkS N 5 0 0 := by
  show N.getD 11 0 + N.getD 12 0 + N.getD 13 0 + N.getD 14 0 + N.getD 15 0 = 0 + N.getD 11 0 + N.getD 12 0 + N.getD 13 0 + N.getD 14 0 + N.getD 15 0
  omega
theorem dc_rel {N D : List Nat} {i sv : Nat} (ok : stN N) (hm : shp (N.getD 0 0)) (hi : i < 132) (hg : N.getD 0 0 = gS i) (td : tdR (mOf N) (plN N) D 264) : ∀ (j k : Nat) (h : Int64), k + j = 10 → dcL N sv j k h = mdC (mOf N) D i sv j k h
  | 0, _, _, _ => rfl
  | j + 1, k, h, e => by
    rw [dcL, mdC, cnt_rel ok hm hi hg td (by omega)]
    exact dc_rel ok hm hi hg td j (k + 1) _ (by omega)
theorem ds_rel (N : List Nat) : ∀ (j k : Nat) (h : Int64), k + j = 3 → dsL N j k h = mdS (mOf N) j k h
  | 0, _, _, _ => rfl
  | j + 1, k, h, e => by
    rw [dsL, mdS, mOf_S N k (by omega)]
    exact ds_rel N j (k + 1) _ (by omega)
theorem hr_rel {N : List Nat} {r : Nat} (ok : stN N) (hm : shp (N.getD 0 0)) (hr : r < 5) : ∀ (j k : Nat) (h : Int64), k + j = 6 → hrL N r j k h = mdW (mOf N) r j k h
  | 0, _, _, _ => rfl
  | j + 1, k, h, e => by
    rw [hrL, mdW, row_rel ok hm hr (by omega)]
    exact hr_rel ok hm hr j (k + 1) _ (by omega)
theorem hw_rel {N : List Nat} {r : Nat} (ok : stN N) (hm : shp (N.getD 0 0)) (hr : r < 5) : ∀ (j k : Nat) (h : Int64), k + j = 3 → hwL N r j k h = mdF (mOf N) r j (k + 1) h
  | 0, _, _, _ => rfl
  | j + 1, k, h, e => by
    have e0 : (mOf N).getD 0 0 = N.getD 0 0 := rfl
    have e1 : (mOf N).getD 1 0 = N.getD 1 0 := rfl
    rw [hwL, mdF, e0, e1, rsn_rel ok hm hr (by omega) (by omega), fall_rel ok hm hr (by omega) (by omega)]
    exact hw_rel ok hm hr j (k + 1) _ (by omega)
theorem dr_rel {N : List Nat} (ok : stN N) (hm : shp (N.getD 0 0)) : ∀ (j r : Nat) (h : Int64), r + j = 5 → drL N j r h = mdR (mOf N) j r h
  | 0, _, _, _ => rfl
  | j + 1, r, h, e => by
    rw [drL, mdR, hr_rel ok hm (by omega) 6 0 h rfl, hw_rel ok hm (by omega) 3 0 _ rfl]
    exact dr_rel ok hm j (r + 1) _ (by omega)
theorem dp_rel {N N' D : List Nat} (td : tdR N' (plN N) D 264) : ∀ (j w : Nat) (h : Int64), w + j = 4 → dpL N j w h = mdP D j w h
  | 0, _, _, _ => rfl
  | j + 1, w, h, e => by
    rw [dpL, mdP, pyr_rel td (by omega)]
    exact dp_rel td j (w + 1) _ (by omega)
theorem dig_rel {N D C : List Nat} {i sv tl : Nat} {has : Bool} (ok : stN N) (hm : shp (N.getD 0 0)) (hi : i < 132) (hg : N.getD 0 0 = gS i) (td : tdR (mOf N) (plN N) D 264) : dgN N C sv tl has = mdN (mOf N) D C i sv tl has := by
  have h1 := ok.2.2.1
  have e1 : (mOf N).getD 1 0 = N.getD 1 0 := rfl
  have e2 : (mOf N).getD 2 0 = N.getD 16 0 := rfl
  have e3 : (mOf N).getD 3 0 = N.getD 17 0 := rfl
  have eb : (if has = true then lN 1 else lN 0) = (bI has).toInt64 := by cases has <;> decide +kernel
  have ew : cW (plN N) (N.getD 1 0) 132 0 0 = myL D (1 + N.getD 1 0) 132 0 0 := cW_rel td (N.getD 1 0) h1 132 0 0 rfl
  unfold dgN mdN dgA
  rw [dc_rel ok hm hi hg td 10 0 _ rfl, ds_rel N 3 0 _ rfl, dr_rel ok hm 5 0 _ rfl, dp_rel td 4 0 _ rfl]
  generalize mdR (mOf N) 5 0 (mdS (mOf N) 3 0 (mdC (mOf N) D i sv 10 0 (lN 3323))) = h0
  have eB : dgB N h0 = mdB (mOf N) D i h0 := by
    unfold dgB mdB
    rw [e1, hg, ← won_rel td hi (by decide), ← won_rel td hi (by decide), ← lon_rel td hi h1, ← sho_rel td hi h1, best_rel ok hm hi hg td]
  unfold dgC mdT
  rw [eB, e1, e2, e3, brk_e, eb, ew]
