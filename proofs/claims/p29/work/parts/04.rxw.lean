/-! ===== how an abstract heap lies in a heap of the machine ===== -/
abbrev xCl : List vw_C := [(RX2, TX2, 7), (RX3, TX3, 9)]
def xTy (ci : Nat) : Nat → FieldType := match ci with
  | 0 => tyX2
  | _ => tyX3
def xTB : List Cond := lw_tbl.filter goodWord
def xNest : List (String × Nat × MethodName × String) :=
  [(RX3, 34, ⟨RX1, "allShapes", "()[I"⟩, RX3), (RX3, 262, ⟨RX1, "mirrored", "(I)I"⟩, RX3), (RX3, 268, ⟨RX2, "<init>", "([IIZZ)V"⟩, RX3),
   (RX2, 53, ⟨RX1, "robbed", "(IIII)I"⟩, RX3), (RX2, 58, ⟨RX1, "settled", "(I)I"⟩, RX3), (RX3, 178, ⟨RX1, "fallenBy", "(IIII)I"⟩, RX3), (RX3, 250, ⟨RX1, "robbed", "(IIII)I"⟩, RX3),
   (RX3, 253, ⟨RX1, "settled", "(I)I"⟩, RX3), (RX3, 186, ⟨RX2, "isWonBy", "(II)Z"⟩, RX3), (RX3, 200, ⟨RX2, "shapesWonBy", "(I)I"⟩, RX3), (RX3, 147, ⟨RX1, "bitsOf", "(II)I"⟩, RX3),
   (RX3, 88, ⟨RX1, "hasBottle", "(III)Z"⟩, RX3), (RX3, 194, ⟨RX2, "longestGame", "(II)I"⟩, RX3), (RX3, 197, ⟨RX2, "shortestGame", "(II)I"⟩, RX3), (RX3, 203, ⟨RX2, "shapesOver", "()I"⟩, RX3),
   (RX3, 259, ⟨RX1, "bit", "(II)I"⟩, RX3), (RX3, 97, ⟨RX1, "hasRoom", "(III)Z"⟩, RX3)]
def xStr : List (Nat × String) :=
  [(176, "what is not 0 to 9"), (55, "there is no such row"), (165, "what is not 0 to 5"), (62, "bottles is out of range"), (80, "thief is out of range"), (192, "what is not 0 or 1"),
   (206, "what is not 0 to 3"), (71, "the theft is not possible"), (86, "there is no such place"), (92, "there is no bottle"), (100, "there is a bottle, or one there would not rest"),
   (115, "there is no such setting"), (117, "value is out of range"), (143, "there is no snapshot"), (145, "there is no saved state")]
def cv (ad : Nat → Nat) : Value → Value
  | .ref a => .ref (ad a)
  | v => v
def xopt (ad : Nat → Nat) : Value → Option Nat
  | .ref a => some (ad a)
  | _ => none
def xe (cy : Nat → ClassId) (ad : Nat → Nat) (q : xC) : va_E := match q.1 with
  | 0 => .inl (cy 0, q.2.1.length, .inl (fun j => q.2.1.getD j 0))
  | 1 => .inl (cy 1, q.2.1.length, .inl (fun j => q.2.1.getD j 0))
  | 2 => .inl (cy 2, q.2.1.length, .inl (fun j => q.2.1.getD j 0))
  | 3 => .inl (cy 3, q.2.2.length, .inr (.inl (fun j => xlong (q.2.2.getD j .null))))
  | 4 => .inl (cy 4, q.2.2.length, .inr (.inr (.inr (.inr (fun j => xopt ad (q.2.2.getD j .null))))))
  | t + 5 => .inr (t, q.2.2.map (cv ad))
def xw (cy : Nat → ClassId) (ad : Nat → Nat) (h : xH) : va_W := h.mapIdx (fun i q => (ad i, xe cy ad q))
def xtys (cy : Nat → ClassId) : List (ClassId × FieldType) := [(cy 0, .int), (cy 1, .char), (cy 2, .boolean), (cy 3, .int), (cy 4, .object RX2)]
def xps (ad : Nat → Nat) (L : xL) : List (Nat × Value) := L.zipIdx.filterMap (fun q => q.1.map (fun v => (q.2, cv ad v)))
theorem cv_cat (ad : Nat → Nat) (v : Value) : (cv ad v).category = v.category := by cases v <;> rfl
theorem xps_mem {ad : Nat → Nat} {L : xL} {j : Nat} {w : Value} : (j, w) ∈ xps ad L ↔ ∃ v, L[j]? = some (some v) ∧ w = cv ad v := by
  unfold xps
  rw [List.mem_filterMap]
  constructor
  · rintro ⟨⟨o, i⟩, hq, he⟩
    have h1 := List.mem_zipIdx_iff_getElem?.mp hq
    cases o with
    | none => simp at he
    | some v =>
      simp only [Option.map_some, Option.some.injEq, Prod.mk.injEq] at he
      obtain ⟨rfl, rfl⟩ := he
      exact ⟨v, h1, rfl⟩
  · rintro ⟨v, h1, rfl⟩
    exact ⟨(some v, j), List.mem_zipIdx_iff_getElem?.mpr h1, rfl⟩
theorem xlg_at : ∀ (L : xL) (i : Nat) (v : Value), xlg L i = some v → L[i]? = some (some v)
  | [], _, _, h => by cases h
  | a :: l, 0, v, h => by
    have h : a = some v := h
    rw [h]; rfl
  | a :: l, n + 1, v, h => by
    rw [List.getElem?_cons_succ]
    exact xlg_at l n v h
theorem xps_at {ad : Nat → Nat} {L : xL} {nL i : Nat} {v : Value} {ls : Array Slot} (hl : lv_has ls nL (xps ad L)) (h : xlg L i = some v) : ls[i]? = some (.val (cv ad v)) :=
  hl.2.2 (i, cv ad v) (xps_mem.mpr ⟨v, xlg_at L i v h, rfl⟩)
theorem lv_less {ls : Array Slot} {nL : Nat} {l l' : List (Nat × Value)} (h : lv_has ls nL l) (hs : ∀ q ∈ l', q ∈ l) : lv_has ls nL l' := ⟨h.1, h.2.1, fun q hq => h.2.2 q (hs q hq)⟩
theorem xc1_some {a : Option Value} {w : Value} (h : xc1 a = some w) : a = some w ∧ ¬ w.category = 2 := by
  cases a with
  | none => cases h
  | some v =>
    cases v <;> first | (cases h; refine ⟨rfl, fun z => ?_⟩; simp [Value.category] at z; done) | (cases h; done)
theorem xst_at : ∀ (L : xL) (i : Nat) (v : Value) (j : Nat) (w : Value), (xst L i v)[j]? = some (some w) → (j = i ∧ w = v) ∨ (j ≠ i ∧ L[j]? = some (some w) ∧ ¬ (j + 1 = i ∧ w.category = 2))
  | [], _, _, _, _, h => by simp [xst] at h
  | a :: l, 0, v, j, w, h => by
    cases j with
    | zero => left; simp [xst] at h; exact ⟨rfl, h.symm⟩
    | succ j => right; exact ⟨by omega, by simpa [xst] using h, by omega⟩
  | a :: l, 1, v, j, w, h => by
    cases j with
    | zero =>
      right
      have h1 : xc1 a = some w := by simpa [xst] using h
      obtain ⟨h2, h3⟩ := xc1_some h1
      exact ⟨by omega, by simp [h2], fun q => h3 q.2⟩
    | succ j =>
      have h1 : (xst l 0 v)[j]? = some (some w) := by simpa [xst] using h
      rcases xst_at l 0 v j w h1 with ⟨e1, e2⟩ | ⟨e1, e2, e3⟩
      · left; exact ⟨by omega, e2⟩
      · right; exact ⟨by omega, by simpa using e2, by omega⟩
  | a :: l, n + 2, v, j, w, h => by
    cases j with
    | zero =>
      right
      have h1 : a = some w := by simpa [xst] using h
      exact ⟨by omega, by simp [h1], by omega⟩
    | succ j =>
      have h1 : (xst l (n + 1) v)[j]? = some (some w) := by simpa [xst] using h
      rcases xst_at l (n + 1) v j w h1 with ⟨e1, e2⟩ | ⟨e1, e2, e3⟩
      · left; exact ⟨by omega, e2⟩
      · right; exact ⟨by omega, by simpa using e2, fun q => e3 ⟨by omega, q.2⟩⟩
theorem xst2_at : ∀ (L : xL) (i : Nat) (v : Value) (j : Nat) (w : Value), (xst2 L i v)[j]? = some (some w) → (j = i ∧ w = v) ∨ (j ≠ i ∧ j ≠ i + 1 ∧ L[j]? = some (some w) ∧ ¬ (j + 1 = i ∧ w.category = 2))
  | [], _, _, _, _, h => by simp [xst2] at h
  | [a], i, _, _, _, h => by
    cases i with
    | zero => simp [xst2] at h
    | succ i => cases i <;> simp [xst2] at h
  | a :: b :: l, 0, v, j, w, h => by
    cases j with
    | zero => left; simp [xst2] at h; exact ⟨rfl, h.symm⟩
    | succ j =>
      cases j with
      | zero => simp [xst2] at h
      | succ j => right; exact ⟨by omega, by omega, by simpa [xst2] using h, by omega⟩
  | a :: b :: l, 1, v, j, w, h => by
    cases j with
    | zero =>
      right
      have h1 : xc1 a = some w := by simpa [xst2] using h
      obtain ⟨h2, h3⟩ := xc1_some h1
      exact ⟨by omega, by omega, by simp [h2], fun q => h3 q.2⟩
    | succ j =>
      have h1 : (xst2 (b :: l) 0 v)[j]? = some (some w) := by simpa [xst2] using h
      rcases xst2_at (b :: l) 0 v j w h1 with ⟨e1, e2⟩ | ⟨e1, e2, e3, e4⟩
      · left; exact ⟨by omega, e2⟩
      · right; exact ⟨by omega, by omega, by simpa using e3, by omega⟩
  | a :: b :: l, n + 2, v, j, w, h => by
    cases j with
    | zero =>
      right
      have h1 : a = some w := by simpa [xst2] using h
      exact ⟨by omega, by omega, by simp [h1], by omega⟩
    | succ j =>
      have h1 : (xst2 (b :: l) (n + 1) v)[j]? = some (some w) := by simpa [xst2] using h
      rcases xst2_at (b :: l) (n + 1) v j w h1 with ⟨e1, e2⟩ | ⟨e1, e2, e3, e4⟩
      · left; exact ⟨by omega, e2⟩
      · right; exact ⟨by omega, by omega, by simpa using e3, fun q => e4 ⟨by omega, q.2⟩⟩
theorem xst_has {ad : Nat → Nat} {L : xL} {nL i : Nat} {v : Value} {ls : Array Slot} (h : lv_has ls nL ((i, cv ad v) :: (xps ad L).filter (fun q => !(q.1 == i) && !(q.1 + 1 == i && q.2.category == 2)))) : lv_has ls nL (xps ad (xst L i v)) := by
  refine lv_less h fun q hq => ?_
  obtain ⟨j, w⟩ := q
  obtain ⟨u, h1, rfl⟩ := xps_mem.mp hq
  rcases xst_at L i v j u h1 with ⟨rfl, rfl⟩ | ⟨e1, e2, e3⟩
  · exact List.mem_cons_self
  · refine List.mem_cons_of_mem _ (List.mem_filter.mpr ⟨xps_mem.mpr ⟨u, e2, rfl⟩, ?_⟩)
    simp only [cv_cat, Bool.and_eq_true, Bool.not_eq_true', beq_eq_false_iff_ne, ne_eq, Bool.and_eq_false_iff]
    refine ⟨e1, ?_⟩
    by_cases z : j + 1 = i
    · exact Or.inr fun q => e3 ⟨z, q⟩
    · exact Or.inl z
theorem xst2_has {ad : Nat → Nat} {L : xL} {nL i : Nat} {v : Value} {ls : Array Slot} (h : lv_has ls nL ((i, cv ad v) :: (xps ad L).filter (fun q => !(q.1 == i) && (!(q.1 == i + 1) && !(q.1 + 1 == i && q.2.category == 2))))) : lv_has ls nL (xps ad (xst2 L i v)) := by
  refine lv_less h fun q hq => ?_
  obtain ⟨j, w⟩ := q
  obtain ⟨u, h1, rfl⟩ := xps_mem.mp hq
  rcases xst2_at L i v j u h1 with ⟨rfl, rfl⟩ | ⟨e1, e2, e3, e4⟩
  · exact List.mem_cons_self
  · refine List.mem_cons_of_mem _ (List.mem_filter.mpr ⟨xps_mem.mpr ⟨u, e3, rfl⟩, ?_⟩)
    simp only [cv_cat, Bool.and_eq_true, Bool.not_eq_true', beq_eq_false_iff_ne, ne_eq, Bool.and_eq_false_iff]
    refine ⟨e1, e2, ?_⟩
    by_cases z : j + 1 = i
    · exact Or.inr fun q => e4 ⟨z, q⟩
    · exact Or.inl z
theorem xst_len : ∀ (L : xL) (i : Nat) (v : Value), (xst L i v).length = L.length
  | [], _, _ => rfl
  | _ :: _, 0, _ => rfl
  | _ :: l, 1, v => by simp [xst, xst_len l 0 v]
  | _ :: l, n + 2, v => by simp [xst, xst_len l (n + 1) v]
theorem xst2_len : ∀ (L : xL) (i : Nat) (v : Value), i + 1 < L.length → (xst2 L i v).length = L.length
  | [], _, _, h => by simp at h
  | [_], _, _, h => by simp at h
  | _ :: _ :: _, 0, _, _ => rfl
  | _ :: b :: l, 1, v, h => by simp only [List.length_cons] at h; simp [xst2, xst2_len (b :: l) 0 v (by simp only [List.length_cons]; omega)]
  | _ :: b :: l, n + 2, v, h => by simp only [List.length_cons] at h; simp [xst2, xst2_len (b :: l) (n + 1) v (by simp only [List.length_cons]; omega)]
theorem xw_at {cy : Nat → ClassId} {ad : Nat → Nat} {h : xH} {k : Nat} {q : xC} (e : h[k]? = some q) : (xw cy ad h)[k]? = some (ad k, xe cy ad q) := by
  unfold xw
  rw [List.getElem?_mapIdx, e]
  rfl
theorem xw_set {cy : Nat → ClassId} {ad : Nat → Nat} {h : xH} {k : Nat} {q : xC} : (xw cy ad h).set k (ad k, xe cy ad q) = xw cy ad (h.set k q) := by
  unfold xw
  apply List.ext_getElem?
  intro i
  rw [List.getElem?_mapIdx, List.getElem?_set, List.getElem?_set, List.getElem?_mapIdx, List.length_mapIdx]
  by_cases e : k = i
  · subst e
    rw [if_pos rfl, if_pos rfl]
    by_cases l : k < h.length
    · rw [if_pos l, if_pos l]; rfl
    · rw [if_neg l, if_neg l]; rfl
  · rw [if_neg e, if_neg e]
theorem xw_push {cy : Nat → ClassId} {ad : Nat → Nat} {h : xH} {q : xC} : xw cy ad h ++ [(ad h.length, xe cy ad q)] = xw cy ad (h ++ [q]) := by
  unfold xw
  rw [List.mapIdx_concat]
theorem xwv_eq {ad ad' : Nat → Nat} {n : Nat} (ha : ∀ i, i < n ∨ 1000 ≤ i → ad' i = ad i) {v : Value} (h : wfv n v) : cv ad' v = cv ad v := by
  cases v with
  | ref a => exact congrArg Value.ref (ha a h)
  | _ => rfl
theorem xwS_eq {ad ad' : Nat → Nat} {n : Nat} (ha : ∀ i, i < n ∨ 1000 ≤ i → ad' i = ad i) : ∀ {l : List Value}, xwS n l → l.map (cv ad') = l.map (cv ad)
  | [], _ => rfl
  | v :: l, h => by rw [List.map_cons, List.map_cons, xwv_eq ha h.1, xwS_eq ha h.2]
theorem xwS_at {n : Nat} : ∀ {l : List Value} {j : Nat} {v : Value}, xwS n l → l[j]? = some v → wfv n v
  | [], _, _, _, h => by simp at h
  | a :: l, 0, v, hw, h => by
    have h : a = v := by simpa using h
    rw [← h]; exact hw.1
  | a :: l, j + 1, v, hw, h => xwS_at hw.2 (by simpa using h)
theorem xwL_at {n : Nat} : ∀ {L : xL} {j : Nat} {v : Value}, xwL n L → L[j]? = some (some v) → wfv n v
  | [], _, _, _, h => by simp at h
  | a :: l, 0, v, hw, h => by
    have h : a = some v := by simpa using h
    subst h
    exact hw.1
  | none :: l, j + 1, v, hw, h => xwL_at (L := l) hw (by simpa using h)
  | some a :: l, j + 1, v, hw, h => xwL_at (L := l) hw.2 (by simpa using h)
theorem xwL_eq {ad ad' : Nat → Nat} {n : Nat} (ha : ∀ i, i < n ∨ 1000 ≤ i → ad' i = ad i) {L : xL} (h : xwL n L) {ls : Array Slot} {nL : Nat} (hl : lv_has ls nL (xps ad L)) : lv_has ls nL (xps ad' L) := by
  refine lv_less hl fun q hq => ?_
  obtain ⟨j, w⟩ := q
  obtain ⟨u, h1, rfl⟩ := xps_mem.mp hq
  exact xps_mem.mpr ⟨u, h1, xwv_eq ha (xwL_at h h1)⟩
theorem xwH_at {n : Nat} : ∀ {h : xH} {j : Nat} {q : xC}, xwH n h → h[j]? = some q → xwS n q.2.2
  | [], _, _, _, h => by simp at h
  | a :: l, 0, v, hw, h => by
    have h : a = v := by simpa using h
    rw [← h]; exact hw.1
  | a :: l, j + 1, v, hw, h => xwH_at (h := l) hw.2 (by simpa using h)
theorem xe_eq {cy : Nat → ClassId} {ad ad' : Nat → Nat} {n : Nat} (ha : ∀ i, i < n ∨ 1000 ≤ i → ad' i = ad i) {q : xC} (h : xwS n q.2.2) : xe cy ad' q = xe cy ad q := by
  obtain ⟨t, l, vs⟩ := q
  match t with
  | 0 => rfl
  | 1 => rfl
  | 2 => rfl
  | 3 => rfl
  | 4 =>
    refine (fun key : (fun j => xopt ad' (vs.getD j .null)) = fun j => xopt ad (vs.getD j .null) => ?_) ?_
    · exact congrArg (fun f => (.inl (cy 4, vs.length, .inr (.inr (.inr (.inr f)))) : va_E)) key
    funext j
    rw [List.getD_eq_getElem?_getD]
    cases hj : vs[j]? with
    | none => rfl
    | some v =>
      have hv := xwS_at (show xwS n vs from h) hj
      cases v with
      | ref a => exact congrArg some (ha a hv)
      | _ => rfl
  | t + 5 => exact congrArg (fun z => Sum.inr (t, z)) (xwS_eq ha h)
theorem xw_eq {cy : Nat → ClassId} {ad ad' : Nat → Nat} {h : xH} (ha : ∀ i, i < h.length ∨ 1000 ≤ i → ad' i = ad i) (hw : xwH h.length h) : xw cy ad' h = xw cy ad h := by
  unfold xw
  apply List.ext_getElem?
  intro i
  rw [List.getElem?_mapIdx, List.getElem?_mapIdx]
  cases hi : h[i]? with
  | none => rfl
  | some q =>
    have hl : i < h.length := (List.getElem?_eq_some_iff.mp hi).1
    simp only [Option.map_some]
    rw [ha i (Or.inl hl), xe_eq ha (xwH_at hw hi)]
theorem pI_e {st : List Value} {k : Int32 → List Value → Prop} (h : pI st k) : ∃ x r, st = .int x :: r ∧ k x r := by
  unfold pI at h
  split at h
  · exact ⟨_, _, rfl, h⟩
  · exact h.elim
theorem pJ_e {st : List Value} {k : Int64 → List Value → Prop} (h : pJ st k) : ∃ x r, st = .long x :: r ∧ k x r := by
  unfold pJ at h
  split at h
  · exact ⟨_, _, rfl, h⟩
  · exact h.elim
theorem pF_e {st : List Value} {k : UInt32 → List Value → Prop} (h : pF st k) : ∃ x r, st = .float x :: r ∧ k x r := by
  unfold pF at h
  split at h
  · exact ⟨_, _, rfl, h⟩
  · exact h.elim
theorem pD_e {st : List Value} {k : UInt64 → List Value → Prop} (h : pD st k) : ∃ x r, st = .double x :: r ∧ k x r := by
  unfold pD at h
  split at h
  · exact ⟨_, _, rfl, h⟩
  · exact h.elim
theorem pR_e {st : List Value} {k : Nat → List Value → Prop} (h : pR st k) : ∃ x r, st = .ref x :: r ∧ k x r := by
  unfold pR at h
  split at h
  · exact ⟨_, _, rfl, h⟩
  · exact h.elim
theorem pA_e {st : List Value} {k : Value → List Value → Prop} (h : pA st k) : ∃ x r, st = x :: r ∧ ((∃ a, x = .ref a) ∨ x = .null) ∧ k x r := by
  unfold pA at h
  split at h
  · exact ⟨_, _, rfl, Or.inl ⟨_, rfl⟩, h⟩
  · exact ⟨_, _, rfl, Or.inr rfl, h⟩
  · exact h.elim
theorem p1_e {st : List Value} {k : Value → List Value → Prop} (h : p1 st k) : ∃ x r, st = x :: r ∧ x.category = 1 ∧ k x r := by
  unfold p1 at h
  split at h
  · exact ⟨_, _, rfl, rfl, h⟩
  · exact ⟨_, _, rfl, rfl, h⟩
  · exact ⟨_, _, rfl, rfl, h⟩
  · exact ⟨_, _, rfl, rfl, h⟩
  · exact h.elim
theorem p0_e {st : List Value} {k : Prop} (h : p0 st k) : st = [] ∧ k := by
  unfold p0 at h
  split at h
  · exact ⟨rfl, h⟩
  · exact h.elim
theorem xbif_e {b : Bool} {k : Prop} (h : bif b then k else False) : b = true ∧ k := by
  cases b with
  | true => exact ⟨rfl, h⟩
  | false => exact h.elim
theorem xhas_e : ∀ {L : xL} {n : Nat}, xhas L n = true → n < L.length
  | [], _, h => by cases h
  | _ :: _, 0, _ => Nat.zero_lt_succ _
  | _ :: l, n + 1, h => Nat.succ_lt_succ (xhas_e (L := l) h)
theorem xst_e {L : xL} {n : Nat} {k : Prop} (h : bif xhas L n then k else False) : n < L.length ∧ k := ⟨xhas_e (xbif_e h).1, (xbif_e h).2⟩
theorem xret_e {ret : Option FieldType} {x : Int32} {k : Prop} (h : xret ret x k) : (ret = some .int ∨ (ret = some .boolean ∧ (x = 0 ∨ x = 1))) ∧ k := by
  unfold xret at h
  split at h
  · exact ⟨Or.inl rfl, h⟩
  · exact ⟨Or.inr ⟨rfl, h.1⟩, h.2⟩
  · exact h.elim
theorem xrtl_e {ret : Option FieldType} {k : Prop} (h : xrtl ret k) : ret = some .long ∧ k := by
  unfold xrtl at h
  split at h
  · exact ⟨rfl, h⟩
  · exact h.elim
theorem xrtf_e {ret : Option FieldType} {k : Prop} (h : xrtf ret k) : ret = some .float ∧ k := by
  unfold xrtf at h
  split at h
  · exact ⟨rfl, h⟩
  · exact h.elim
theorem xrtd_e {ret : Option FieldType} {k : Prop} (h : xrtd ret k) : ret = some .double ∧ k := by
  unfold xrtd at h
  split at h
  · exact ⟨rfl, h⟩
  · exact h.elim
theorem xrta_e {ret : Option FieldType} {k : Prop} (h : xrta ret k) : ((∃ n, ret = some (.object n)) ∨ ∃ t, ret = some (.array t)) ∧ k := by
  unfold xrta at h
  split at h
  · exact ⟨Or.inl ⟨_, rfl⟩, h⟩
  · exact ⟨Or.inr ⟨_, rfl⟩, h⟩
  · exact h.elim
theorem xrtv_e {ret : Option FieldType} {k : Prop} (h : xrtv ret k) : ret = none ∧ k := by
  unfold xrtv at h
  split at h
  · exact ⟨rfl, h⟩
  · exact h.elim
theorem xli_e {L : xL} {i : Nat} {k : Int32 → Prop} (h : xli L i k) : ∃ x, xlg L i = some (.int x) ∧ k x := by
  unfold xli at h
  split at h
  · exact ⟨_, by assumption, h⟩
  · exact h.elim
theorem xlj_e {L : xL} {i : Nat} {k : Int64 → Prop} (h : xlj L i k) : ∃ x, xlg L i = some (.long x) ∧ k x := by
  unfold xlj at h
  split at h
  · exact ⟨_, by assumption, h⟩
  · exact h.elim
theorem xlf_e {L : xL} {i : Nat} {k : UInt32 → Prop} (h : xlf L i k) : ∃ x, xlg L i = some (.float x) ∧ k x := by
  unfold xlf at h
  split at h
  · exact ⟨_, by assumption, h⟩
  · exact h.elim
theorem xld_e {L : xL} {i : Nat} {k : UInt64 → Prop} (h : xld L i k) : ∃ x, xlg L i = some (.double x) ∧ k x := by
  unfold xld at h
  split at h
  · exact ⟨_, by assumption, h⟩
  · exact h.elim
theorem xla_e {L : xL} {i : Nat} {k : Value → Prop} (h : xla L i k) : ∃ x, xlg L i = some x ∧ ((∃ a, x = .ref a) ∨ x = .null) ∧ k x := by
  unfold xla at h
  split at h
  · exact ⟨_, by assumption, Or.inl ⟨_, rfl⟩, h⟩
  · exact ⟨_, by assumption, Or.inr rfl, h⟩
  · exact h.elim
theorem xhi_e {h : xH} {a t : Nat} {k : List Int32 → Prop} (hh : xhi h a t k) : ∃ l vs, h[a]? = some (t, l, vs) ∧ k l := by
  unfold xhi at hh
  split at hh
  · rename_i q e
    obtain ⟨h1, h2⟩ := xbif_e hh
    exact ⟨q.2.1, q.2.2, by rw [e, ← (beq_iff_eq.mp h1)], h2⟩
  · exact hh.elim
theorem xhv_e {h : xH} {a t : Nat} {k : List Value → Prop} (hh : xhv h a t k) : ∃ l vs, h[a]? = some (t, l, vs) ∧ k vs := by
  unfold xhv at hh
  split at hh
  · rename_i q e
    obtain ⟨h1, h2⟩ := xbif_e hh
    exact ⟨q.2.1, q.2.2, by rw [e, ← (beq_iff_eq.mp h1)], h2⟩
  · exact hh.elim
theorem xpop_e : ∀ {n : Nat} {acc st : List Value} {k : List Value → List Value → Prop}, xpop n acc st k → ∃ as r, st = as.reverse ++ r ∧ as.length = n ∧ k (as ++ acc) r
  | 0, acc, st, k, h => ⟨[], st, rfl, rfl, h⟩
  | n + 1, acc, [], k, h => h.elim
  | n + 1, acc, v :: st, k, h => by
    obtain ⟨as, r, e1, e2, e3⟩ := xpop_e (n := n) (acc := v :: acc) (st := st) h
    exact ⟨as ++ [v], r, by rw [e1]; simp, by simp [e2], by simpa using e3⟩
theorem xsm_e2 : ∀ {st : List Value} {k : Prop}, xsm st k → st.length ≤ 4 ∧ k
  | [], k, h => ⟨Nat.zero_le _, h⟩
  | [_], k, h => ⟨by simp, h⟩
  | [_, _], k, h => ⟨by simp, h⟩
  | [_, _, _], k, h => ⟨by simp, h⟩
  | [_, _, _, _], k, h => ⟨by simp, h⟩
  | _ :: _ :: _ :: _ :: _ :: _, k, h => h.elim
theorem xsm_e : ∀ {st : List Value}, st.length ≤ 4 → ∀ ad : Nat → Nat, (st.map fun v => v.category).sum ≤ 8 ∧ ((st.map (cv ad)).map fun v => v.category).sum ≤ 8 := by
  intro st h ad
  have hc : ∀ v : Value, v.category ≤ 2 := fun v => by rcases lv_cat v with q | q <;> omega
  have key : ((st.map (cv ad)).map fun v => v.category) = st.map fun v => v.category := by
    rw [List.map_map]
    exact List.map_congr_left fun v _ => cv_cat ad v
  rw [key]
  refine ⟨?_, ?_⟩ <;>
  · match st, h with
    | [], _ => simp
    | [a], _ => have := hc a; simp; omega
    | [a, b], _ => have := hc a; have := hc b; simp; omega
    | [a, b, c], _ => have := hc a; have := hc b; have := hc c; simp; omega
    | [a, b, c, d], _ => have := hc a; have := hc b; have := hc c; have := hc d; simp; omega
    | _ :: _ :: _ :: _ :: _ :: _, h => simp only [List.length_cons] at h; omega
theorem xcpy_eq {f g : List Int32} {sp dp n : Nat} (h1 : sp + n ≤ f.length) (h2 : dp + n ≤ g.length) : va_cpy (fun j => f.getD j 0) (fun j => g.getD j 0) sp dp n = fun j => (xcpy f g sp dp n).getD j 0 := by
  funext j
  unfold va_cpy xcpy
  simp only [List.getD_eq_getElem?_getD]
  by_cases a : dp ≤ j ∧ j < dp + n
  · rw [if_pos a, List.getElem?_append_right (by rw [List.length_take]; omega), List.length_take, Nat.min_eq_left (by omega), List.getElem?_append_left (by rw [List.length_take, List.length_drop]; omega), List.getElem?_take, if_pos (by omega), List.getElem?_drop]
  · rw [if_neg a]
    by_cases b : j < dp
    · rw [List.getElem?_append_left (by rw [List.length_take]; omega), List.getElem?_take, if_pos b]
    · rw [List.getElem?_append_right (by rw [List.length_take]; omega), List.length_take, Nat.min_eq_left (by omega), List.getElem?_append_right (by rw [List.length_take, List.length_drop]; omega), List.length_take, List.length_drop, Nat.min_eq_left (by omega), List.getElem?_drop]
      congr 3
      omega
theorem xcpy_len {f g : List Int32} {sp dp n : Nat} (h1 : sp + n ≤ f.length) (h2 : dp + n ≤ g.length) : (xcpy f g sp dp n).length = g.length := by
  unfold xcpy
  simp only [List.length_append, List.length_take, List.length_drop]
  omega
theorem xset_eq {l : List Int32} {i : Nat} {x : Int32} (h : i < l.length) : upd (fun j => l.getD j 0) i x = fun j => (l.set i x).getD j 0 := by
  funext j
  simp only [upd, List.getD_eq_getElem?_getD, List.getElem?_set]
  by_cases e : j = i
  · rw [if_pos e, if_pos e.symm, if_pos (by omega)]; rfl
  · rw [if_neg e, if_neg (Ne.symm e)]
