/-! ===== what the tables must say of a method's blocks, decided by program; what a walk stands on ===== -/
def xExc : Nat → String
  | 10 => "java/lang/IndexOutOfBoundsException"
  | 11 => "java/lang/IllegalArgumentException"
  | _ => "java/lang/IllegalStateException"
def xNames : List String := ["java/lang/RuntimeException", "java/lang/Exception"]
/-- is it among the words? (by the numbers first, where it has some: texts are dear) -/
def xin (w : Cond) : Bool := match w with
  | .methodLink _ i _ => xTB.any fun z => (match z with | .methodLink _ j _ => j == i | _ => false) && decide (z = w)
  | .fieldLink _ i _ _ _ => xTB.any fun z => (match z with | .fieldLink _ j _ _ _ => j == i | _ => false) && decide (z = w)
  | .constant _ i _ => xTB.any fun z => (match z with | .constant _ j _ => j == i | _ => false) && decide (z = w)
  | .constantLong _ i _ => xTB.any fun z => (match z with | .constantLong _ j _ => j == i | _ => false) && decide (z = w)
  | w => decide (w ∈ xTB)
theorem xin_a {w : Cond} {g : Cond → Bool} (h : (xTB.any fun z => g z && decide (z = w)) = true) : w ∈ xTB := by
  obtain ⟨z, hz, h⟩ := List.any_eq_true.mp h
  have h := ((Bool.and_eq_true _ _).mp h).2
  rw [← of_decide_eq_true h]
  exact hz
theorem xin_e {w : Cond} (h : xin w = true) : w ∈ xTB := by
  unfold xin at h
  split at h
  · exact xin_a h
  · exact xin_a h
  · exact xin_a h
  · exact xin_a h
  · exact of_decide_eq_true h
/-- the word at a place -/
def xat (i : Nat) (w : Cond) : Bool := decide (lw_tbl[i]? = some w) && goodWord w
def xlk (v : Value) (w : Cond) : Bool := match v with
  | .ref i => xat i w
  | _ => false
theorem xat_e {i : Nat} {w : Cond} (h : xat i w = true) : w ∈ xTB := by
  obtain ⟨h1, h2⟩ := (Bool.and_eq_true _ _).mp h
  exact List.mem_filter.mpr ⟨List.mem_of_getElem? (of_decide_eq_true h1), h2⟩
theorem xlk_e {v : Value} {w : Cond} (h : xlk v w = true) : w ∈ xTB := by
  unfold xlk at h
  split at h
  · exact xat_e h
  · cases h
def okA (bl : List xB) (t pc : Nat) (off : Int) : Bool := match bl[t]? with
  | some B => decide ((pc : Int) + off = (B.1 : Int))
  | none => false
def okAs (bl : List xB) (pc : Nat) (offs : Array Int) : Nat → List Nat → Bool
  | _, [] => true
  | j, t :: ts => (match offs[j]? with | some off => okA bl t pc off | none => false) && okAs bl pc offs (j + 1) ts
def xkd : FieldType → Nat
  | .int => 0
  | .boolean => 1
  | .object _ => 2
  | .array _ => 2
  | _ => 9
/-- words of a throw that aren't kept by every warming -/
def xOdd : List Cond := [.castable (xExc 10) (xExc 10), .castable (xExc 11) (xExc 11), .castable (xExc 12) (xExc 12), .declares (Bundle.initS "java/lang/RuntimeException"), .declares (Bundle.initS "java/lang/Exception"), .declares (Bundle.initS Bundle.tN)]
def okT (cc : ByteArray) (own : String) (r1 pc ik : Nat) : List xE → Bool
  | (.dup, _) :: (.ldc is, _) :: (.invokespecial ic, _) :: (.athrow, _) :: _ =>
    decide (own = RX3) && decide (decode cc (pc + 3) = .ok (.dup, 1)) && decide (decode cc (pc + 4) = .ok (.ldc is, 2)) && decide (decode cc (pc + 6) = .ok (.invokespecial ic, 3)) && decide (decode cc (pc + 9) = .ok (.athrow, 1)) &&
    xin (.classLink own ik (xExc r1)) && xin (.initialized (xExc r1)) && (xStr.any fun q => decide (q.1 = is)) && ((vx_atS own ic (xExc r1) xNames).all fun w => xin w || decide (w ∈ xOdd)) && ((Cond.classLink own ik (xExc r1) :: Cond.initialized (xExc r1) :: vx_atS own ic (xExc r1) xNames).all vx_ot)
  | (.dup, _) :: (.ldc_w is, _) :: (.invokespecial ic, _) :: (.athrow, _) :: _ =>
    decide (own = RX3) && decide (decode cc (pc + 3) = .ok (.dup, 1)) && decide (decode cc (pc + 4) = .ok (.ldc_w is, 3)) && decide (decode cc (pc + 7) = .ok (.invokespecial ic, 3)) && decide (decode cc (pc + 10) = .ok (.athrow, 1)) &&
    xin (.classLink own ik (xExc r1)) && xin (.initialized (xExc r1)) && (xStr.any fun q => decide (q.1 = is)) && ((vx_atS own ic (xExc r1) xNames).all fun w => xin w || decide (w ∈ xOdd)) && ((Cond.classLink own ik (xExc r1) :: Cond.initialized (xExc r1) :: vx_atS own ic (xExc r1) xNames).all vx_ot)
  | _ => false
/-- a call: the callee's record, the link, what it makes; KT: kind (0 static, 1 virtual, 2 a constructor) and number of arguments, by the method's number -/
def okC (T : List xM) (KT : List (Nat × Nat)) (own : String) (idx r1 kind n : Nat) (v : Value) (tb : List Nat) : Bool := match T[r1]? with
  | some q => (match v with | .retAddr j => decide (xNest[j]? = some (own, idx, q.1, RX3)) | v => xlk v (.methodLink own idx q.1)) && decide (KT[r1]? = some (kind, n)) && (match tb with
    | [_] => decide (q.2.2.2.2.1 = 0) && decide (q.2.2.2.2.2.1 = 0) && !q.2.2.2.2.2.2.1
    | [_, k1, k2] => decide (q.2.2.2.2.1 = k1) && decide (q.2.2.2.2.2.1 = k2) && !q.2.2.2.2.2.2.1
    | [_, k1, k2, _] => decide (q.2.2.2.2.1 = k1) && decide (q.2.2.2.2.2.1 = k2)
    | _ => false)
  | none => false
def okN (y : MethodName) (n : Nat) : Bool := decide ((parseMethodDescriptor y.desc).map (fun d => d.parameters.length) = some n)
def okI (T : List xM) (KT : List (Nat × Nat)) (y : MethodName) (cc : ByteArray) (bl : List xB) (pc : Nat) (ins : Instr) (len r1 r2 : Nat) (v : Value) (tb : List Nat) (es : List xE) : Bool := match ins with
  | .iconst n => decide (len = 1) && decide (v = .int (Int32.ofInt n))
  | .bipush n => decide (len = 2) && decide (v = .int (Int8.ofInt n).toInt32)
  | .sipush n => decide (len = 3) && decide (v = .int (Int16.ofInt n).toInt32)
  | .ldc i => decide (len = 2) && (match v with
    | .int x => xin (.constant y.cls i x)
    | _ => false)
  | .ldc_w i => decide (len = 3) && (match v with
    | .int x => xin (.constant y.cls i x)
    | _ => false)
  | .ldc2_w i => decide (len = 3) && (match v with
    | .long x => xin (.constantLong y.cls i x)
    | .double x => xin (.constantDouble y.cls i x)
    | _ => false)
  | .lconst n => decide (len = 1) && decide (v = .long (Int64.ofNat (n : Nat)))
  | .fconst n => decide (len = 1) && ((decide (n = 0) && decide (v = .float FP.fconst0)) || (decide (n = 1) && decide (v = .float FP.fconst1)))
  | .dconst n => decide (len = 1) && ((decide (n = 0) && decide (v = .double FP.dconst0)) || (decide (n = 1) && decide (v = .double FP.dconst1)))
  | .iload _ | .lload _ | .fload _ | .dload _ | .aload _ | .istore _ | .lstore _ | .fstore _ | .dstore _ | .astore _ => decide (len = 2)
  | .iinc _ n => decide (len = 3) && decide (v = .int (Int32.ofInt n))
  | .goto off => decide (len = 3) && okA bl r1 pc off
  | .ifCond _ off => decide (len = 3) && okA bl r1 pc off
  | .if_icmp _ off => decide (len = 3) && okA bl r1 pc off
  | .ifnonnull off => decide (len = 3) && okA bl r1 pc off
  | .tableswitch d lo hi offs => decide (lo = (r2 : Int)) && decide (hi = (r2 : Int) + (tb.length : Int) - 1) && decide (r2 + tb.length < 1000) && okA bl r1 pc d && okAs bl pc offs 0 tb
  | .getstatic i => decide (len = 3) && xlk v (.fieldLink y.cls i RX1 "ROW_START" "[I")
  | .getfield i => decide (len = 3) && (match xCl[r1]? with
    | some q => decide (r2 < q.2.2) && xlk v (.fieldLink y.cls i (q.2.1 r2).1 (q.2.1 r2).2.1 (q.2.1 r2).2.2.1)
    | none => false)
  | .putfield i => decide (len = 3) && (match xCl[r1]? with
    | some q => decide (r2 < q.2.2) && xlk v (.fieldLink y.cls i (q.2.1 r2).1 (q.2.1 r2).2.1 (q.2.1 r2).2.2.1) && decide (tb.headD 0 = xkd (xTy r1 r2)) && (!(q.2.1 r2).2.2.2 || (decide (y.name = "<init>") && decide ((q.2.1 r2).1 = y.cls)))
    | none => false)
  | .newarray t => decide (len = 2) && xin (.arrayClass (newarray.typeOf t))
  | .anewarray i => decide (len = 3) && xin (.classLink y.cls i RX2)
  | .new i => decide (len = 3) && (bif xnew r1 then (match xCl[r1]? with
    | some q => xin (.classLink y.cls i q.1) && xin (.instantiable q.1 q.2.2) && xin (.initialized q.1)
    | none => false) else okT cc y.cls r1 pc i es)
  | .invokestatic i => decide (len = 3) && (
    bif r1 == 900 then xin (.methodLink y.cls i arraycopyName) && xin (.native arraycopyName) && xin (.static arraycopyName) && xin (.initialized "java/lang/System")
    else bif r1 == 904 then xin (.methodLink y.cls i ⟨"java/lang/Double", "doubleToRawLongBits", "(D)J"⟩) && xin (.native ⟨"java/lang/Double", "doubleToRawLongBits", "(D)J"⟩) && xin (.static ⟨"java/lang/Double", "doubleToRawLongBits", "(D)J"⟩) && xin (.initialized "java/lang/Double")
    else bif r1 == 905 then xin (.methodLink y.cls i ⟨"java/lang/Float", "floatToRawIntBits", "(F)I"⟩) && xin (.native ⟨"java/lang/Float", "floatToRawIntBits", "(F)I"⟩) && xin (.static ⟨"java/lang/Float", "floatToRawIntBits", "(F)I"⟩) && xin (.initialized "java/lang/Float")
    else okC T KT y.cls i r1 0 r2 v tb)
  | .invokespecial i => decide (len = 3) && (
    bif r1 == 901 then xin (.methodLink y.cls i Lib.objectInit) && xin (.instanceMethod Lib.objectInit) && xin (.code Lib.objectInit ⟨#[0xb1]⟩ 1 none)
    else decide (0 < r2) && okC T KT y.cls i r1 2 (r2 - 1) v tb)
  | .invokevirtual i => decide (len = 3) && decide (0 < r2) && okC T KT y.cls i r1 1 (r2 - 1) v tb && (match T[r1]? with
    | some q => (match xCl[tb.headD 0]? with
      | some z => decide (q.1.cls = z.1)
      | none => false)
    | none => false)
  | .athrow => false
  | _ => decide (len = 1)
def okEs (T : List xM) (KT : List (Nat × Nat)) (y : MethodName) (cc : ByteArray) (bl : List xB) (nx : Nat) : Nat → List xE → Bool
  | pc, [] => okA bl nx pc 0
  | pc, (ins, len, r1, r2, v, tb) :: es => decide (decode cc pc = .ok (ins, len)) && okI T KT y cc bl pc ins len r1 r2 v tb es && (match ins with
    | .goto _ | .tableswitch .. | .ireturn | .lreturn | .freturn | .dreturn | .areturn | .return_ => true
    | .new _ => bif xnew r1 then okEs T KT y cc bl nx (pc + len) es else true
    | _ => okEs T KT y cc bl nx (pc + len) es)
/-- a method's record agrees with the tables; HT: the places of its words -/
def okM (T : List xM) (KT : List (Nat × Nat)) (HT : List (Nat × Nat × Nat × Nat)) (i : Nat) (q : xM) : Bool := match HT[i]? with
  | some (a, b, c, g) => xat a (.code q.1 q.2.1 q.2.2.1 q.2.2.2.1) && xat b (.initialized q.1.cls) && decide (q.2.2.1 ≤ 40) && plainFor q.1 && decide (q.1.cls ≠ "java/lang/invoke/MethodHandle" ∧ q.1.cls ≠ "java/lang/invoke/VarHandle") &&
    (match KT[i]? with
    | some (0, n) => xat c (.static q.1) && okN q.1 n
    | some (1, n) => xat c (.instanceMethod q.1) && xat g (.selects q.1.cls q.1 q.1) && okN q.1 n
    | some (2, n) => decide (q.1.name = "<init>") && decide (q.2.2.2.1 = none) && xat c (.instanceMethod q.1) && okN q.1 n
    | _ => false) &&
    (match q.2.2.2.2.2.2.2[0]? with | some B => decide (B.1 = 0) | none => false) && q.2.2.2.2.2.2.2.all fun B => okEs T KT q.1 q.2.1 q.2.2.2.2.2.2.2 B.2.2 B.1 B.2.1
  | none => false
/-- what is given of the heap outside the world, and of the tables' nest mates and texts -/
def xGl (A : Nat → Prop) (tR : Nat) (U : State) (H : Heap) : Prop :=
  va_Z RX1 "ROW_START" "[I" (.ref tR) A U H ∧ va_T .int tR 5 (fun j => .int (([0, 5, 9, 12, 14] : List Int32).getD j 0)) A U H ∧ vx_Zq Bundle.tN "UNASSIGNED_STACK" Bundle.steD A U H ∧ vx_Zq Bundle.tN "SUPPRESSED_SENTINEL" Bundle.listD A U H ∧
  (∀ q ∈ xNest, va_Nw (.methodLinkNest q.1 q.2.1 q.2.2.1 q.2.2.2) U) ∧ (∀ q ∈ xStr, ∃ sa, vk_R RX3 q.1 q.2 sa U) ∧ va_AO RX2 U ∧ (∀ w ∈ xOdd, va_Nw w U)
theorem xOdd_warm {s U : State} (hW : s.WarmedH U.vm) (h : ∀ w ∈ xOdd, va_Nw w s) : ∀ w ∈ xOdd, va_Nw w U := by
  unfold xOdd at h ⊢
  simp only [List.forall_mem_cons] at h ⊢
  obtain ⟨h1, h2, h3, h4, h5, h6, -⟩ := h
  exact ⟨va_Nw.warmC hW h1, va_Nw.warmC hW h2, va_Nw.warmC hW h3, va_Nw.warmD hW h4, va_Nw.warmD hW h5, va_Nw.warmD hW h6, fun _ h => nomatch h⟩
theorem xOdd_use {s : State} {args : Array Value} (h : ∀ w ∈ xOdd, va_Nw w s) : ∀ w ∈ xOdd, w.before args s = true := by
  unfold xOdd at h ⊢
  simp only [List.forall_mem_cons] at h ⊢
  obtain ⟨h1, h2, h3, h4, h5, h6, -⟩ := h
  exact ⟨va_Nw.use rfl h1, va_Nw.use rfl h2, va_Nw.use rfl h3, va_Nw.use rfl h4, va_Nw.use rfl h5, va_Nw.use rfl h6, fun _ h => nomatch h⟩
theorem xGl.warm {A : Nat → Prop} {tR : Nat} {s U : State} {H : Heap} (hW : s.WarmedH U.vm) (h : xGl A tR s H) : xGl A tR U H := by
  obtain ⟨h1, h2, h3, h4, h5, h6, h7, h8⟩ := h
  refine ⟨va_Z.moved hW.alike h1, va_T.moved hW.alike h2, vx_Zq.moved hW.alike h3, vx_Zq.moved hW.alike h4, fun q hq => va_Nw.warmM hW (h5 q hq), fun q hq => ?_, va_AO.moved hW.alike h7, xOdd_warm hW h8⟩
  obtain ⟨sa, h⟩ := h6 q hq
  exact ⟨sa, vk_R.warm hW h⟩
theorem xGl.kept {A : Nat → Prop} {tR : Nat} {U : State} {H H1 : Heap} (hq : ∀ a : Nat, a < H.size → ¬ A a → H1[a]? = H[a]?) (h : xGl A tR U H) : xGl A tR U H1 := by
  obtain ⟨h1, h2, h3, h4, h5⟩ := h
  exact ⟨h1.kept hq, h2.kept hq, h3.kept hq, h4.kept hq, h5⟩
theorem xGl.narrow {A B : Nat → Prop} {tR : Nat} {U : State} {H : Heap} (hAB : ∀ q, B q → A q) (h : xGl A tR U H) : xGl B tR U H := by
  obtain ⟨h1, h2, h3, h4, h5⟩ := h
  exact ⟨h1.narrow hAB, h2.narrow hAB, h3.narrow hAB, h4.narrow hAB, h5⟩
/-- the room of a method whose calls go d deep -/
def xrm (d mc ms : Nat) : Room := { frames := 8 + 2 * d, cells := mc, slots := ms, locals := 200 + 60 * d }
def xR (d : Nat) (R : Room) : Prop := 8 + 2 * d ≤ R.frames ∧ 200 + 60 * d ≤ R.locals
def xCtx (p : Program) (l : Launch) (s : State) (m : MethodId) (args : Array Value) (meth : Method) (c : Code) (y : MethodName) (cc : ByteArray) (nL : Nat) (ret : Option FieldType) (D : va_G) (cy : Nat → ClassId) (A : Nat → Prop) (tR : Nat) : Prop :=
  p.tables.exec = Jvm.exec ∧ c.code = cc ∧ meth.sig.returnType = ret ∧ c.maxLocals = nL ∧ s.vm.findClass y.cls = some m.cls ∧ (∀ w ∈ xTB, w.before args s = true) ∧ meth.locks = false ∧ meth.name = y.name ∧ (y.cls = RX3 → ∀ x ∈ c.exceptionTable.toList, False) ∧
  va_K D xCl (xtys cy) s ∧ (∀ q, s.heap.size ≤ q → A q) ∧ xGl A tR s s.heap ∧ l.stackTraces = false
/-- a walk from pc on, in whatever heap holds h, wherever its cells lie -/
def xW (p : Program) (l : Launch) (e : Env) (R : Room) (s : State) (m : MethodId) (args : Array Value) (below : List Frame) (meth : Method) (c : Code) (Qm : State → Prop) (D : va_G) (cy : Nat → ClassId) (A : Nat → Prop) (ad0 : Nat → Nat) (n0 : Nat) (al : Bool) (nL mc ms : Nat) (pc : Nat) (L : xL) (st : List Value) (h : xH) (cs ss : Nat) : Prop :=
  cs ≤ mc → ss ≤ ms → ∀ (ad : Nat → Nat) (H : Heap) (locs : List Loc) (ls : Array Slot), n0 ≤ h.length → (∀ i, i < n0 ∨ 1000 ≤ i → ad i = ad0 i) → (al = false → ad = ad0) → L.length = nL → lv_has ls nL (xps ad L) → va_P D xCl (xw cy ad h) H → va_D A (xw cy ad h) → va_S A s.heap H locs →
    W p l e R s m args below meth c H locs cs ss Qm (F0 m pc ls (st.map (cv ad)))
def xPc (D : va_G) (cy : Nat → ClassId) (ad0 : Nat → Nat) (h : xH) (args : List Value) (sz : Nat) : Array Value → State → Prop := va_Pc (args.map (cv ad0)) (fun U => U.heap.size = sz ∧ va_P D xCl (xw cy ad0 h) U.heap ∧ va_K D xCl (xtys cy) U ∧ va_D (fun _ => True) (xw cy ad0 h) ∧ xGl (va_A (xw cy ad0 h) sz) (ad0 1000) U U.heap)
def xBk (D : va_G) (cy : Nat → ClassId) (ad0 ad : Nat → Nat) (n0 : Nat) (al : Bool) (A : Nat → Prop) (h : xH) (t : State) : Prop := n0 ≤ h.length ∧ (∀ i, i < n0 ∨ 1000 ≤ i → ad i = ad0 i) ∧ (al = false → ad = ad0) ∧ va_P D xCl (xw cy ad h) t.heap ∧ va_K D xCl (xtys cy) t ∧ va_D A (xw cy ad h)
def xQc (D : va_G) (cy : Nat → ClassId) (ad0 : Nat → Nat) (n0 : Nat) (al : Bool) (A : Nat → Prop) (Q : Option Value → xH → Prop) : Array Value → State → Outcome → State → Prop := fun _ st oc t =>
  (∃ (v : Option Value) (h : xH) (ad : Nat → Nat), oc = .returned (v.map (cv ad)) ∧ Q v h ∧ xBk D cy ad0 ad n0 al A h t) ∧ va_F A st t
def xXc (D : va_G) (cy : Nat → ClassId) (ad0 : Nat → Nat) (n0 : Nat) (al : Bool) (A : Nat → Prop) (X : Nat → xH → Prop) : String → State → State → Prop := fun E st t =>
  (∃ (k : Nat) (h : xH) (ad : Nat → Nat), E = xExc k ∧ X k h ∧ xBk D cy ad0 ad n0 al A h t) ∧ va_F A st t
/-- what Ev says, said of the machine -/
def xSound (T : List xM) (l : Launch) (d : Nat) : Prop := ∀ (M : Nat) (args : List Value) (h : xH) (Q : Option Value → xH → Prop) (X : Nat → xH → Prop), Ev T d M args h Q X → ∃ q : xM, T[M]? = some q ∧ ∀ (D : va_G) (cy : Nat → ClassId) (ad0 : Nat → Nat) (sz : Nat),
  vx_Met l q.1 (Cond.code q.1 q.2.1 q.2.2.1 q.2.2.2.1 :: xTB) (xrm d q.2.2.2.2.1 q.2.2.2.2.2.1) (xPc D cy ad0 h args sz) (xQc D cy ad0 h.length q.2.2.2.2.2.2.1 (va_A (xw cy ad0 h) sz) Q) (xXc D cy ad0 h.length q.2.2.2.2.2.2.1 (va_A (xw cy ad0 h) sz) X) q.2.2.2.2.1 q.2.2.2.2.2.1 (va_A (xw cy ad0 h) sz)
theorem xTB_good : ∀ w ∈ xTB, (w.onTables && w.keeps) = true ∨ ∃ ty, w = .arrayClass ty := fun w h => good_of_word (List.mem_filter.mp h).2
theorem xTB_in : ∀ w ∈ xTB, w ∈ lw_tbl := fun w h => (List.mem_filter.mp h).1
theorem xGI (ws : List Cond) (h : ∀ w ∈ ws, w ∈ xTB) : GoodIn xTB ws := fun w hw => ⟨h w hw, xTB_good w (h w hw)⟩
theorem xcl_in (ci : Nat) (q : vw_C) (h : xCl[ci]? = some q) : ∀ w ∈ u_ws q.1 q.2.1 q.2.2, w ∈ xTB := by
  match ci, h with
  | 0, h => cases h; exact (by decide +kernel : ∀ w ∈ u_ws RX2 TX2 7, w ∈ xTB)
  | 1, h => cases h; exact (by decide +kernel : ∀ w ∈ u_ws RX3 TX3 9, w ∈ xTB)
  | n + 2, h => simp [xCl] at h
theorem xcl_ty (ci : Nat) (q : vw_C) (h : xCl[ci]? = some q) : ∀ k, k < q.2.2 → parseFieldDescriptor (q.2.1 k).2.2.1 = some (xTy ci k) := by
  match ci, h with
  | 0, h => cases h; exact tyX2_ok
  | 1, h => cases h; exact tyX3_ok
  | n + 2, h => simp [xCl] at h
theorem xcl_nm (ci : Nat) (q : vw_C) (h : xCl[ci]? = some q) : ∀ a, a < q.2.2 → ∀ b, b < q.2.2 → a ≠ b → (q.2.1 a).2.1 ≠ (q.2.1 b).2.1 := by
  match ci, h with
  | 0, h => cases h; exact nmX2
  | 1, h => cases h; exact nmX3
  | n + 2, h => simp [xCl] at h
theorem xcl_def (ci : Nat) (q : vw_C) (h : xCl[ci]? = some q) : (xdef ci).length = q.2.2 ∧ ∀ j, j < q.2.2 → defaultValue (xTy ci j) = vp_V (xdef ci) j := by
  match ci, h with
  | 0, h => cases h; exact ⟨rfl, by decide +kernel⟩
  | 1, h => cases h; exact ⟨rfl, by decide +kernel⟩
  | n + 2, h => simp [xCl] at h
theorem xfit_ok {ty : FieldType} {x : Value} {k : Prop} (ad : Nat → Nat) (h : xfit (xkd ty) x k) : (narrow ty (cv ad x) = cv ad x ∧ fits ty (cv ad x) = true) ∧ k := by
  cases ty <;> cases x <;> simp [xkd, xfit] at h <;> first | exact ⟨⟨rfl, rfl⟩, h⟩ | (obtain ⟨h, hk⟩ := h; refine ⟨?_, hk⟩; rcases h with rfl | rfl <;> first | exact ⟨(by decide +kernel : narrow .boolean (.int 0) = .int 0), (by decide +kernel : fits .boolean (.int 0) = true)⟩ | exact ⟨(by decide +kernel : narrow .boolean (.int 1) = .int 1), (by decide +kernel : fits .boolean (.int 1) = true)⟩)
theorem xdef_map (ad : Nat → Nat) (ci : Nat) : (xdef ci).map (cv ad) = xdef ci := by
  match ci with
  | 0 => rfl
  | 1 => rfl
  | n + 2 => rfl
