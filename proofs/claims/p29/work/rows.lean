section
-- ===== PART A: goes FIRST, ahead of the names: the tables' words, and 'selects' of the private methods out of them =====
/-- a private method of a class that the tables say can be made, by its rows of tables_1 -/
def lw_okq (q : MethodName × Nat) : Prop := (q.1.cls ≠ "java/lang/invoke/MethodHandle" ∧ q.1.cls ≠ "java/lang/invoke/VarHandle") ∧ Cond.instantiable q.1.cls q.2 ∈ tables_1 ∧ Cond.privateMethod q.1 ∈ tables_1 ∧ Cond.instanceMethod q.1 ∈ tables_1
theorem lw_p0 : lw_okq (⟨"BottlePyramid", "save", "()V"⟩, 9) := ⟨⟨by decide +kernel, by decide +kernel⟩, List.mem_of_getElem? (i := 14) (by decide +kernel), List.mem_of_getElem? (i := 69) (by decide +kernel), List.mem_of_getElem? (i := 70) (by decide +kernel)⟩
theorem lw_p1 : lw_okq (⟨"BottlePyramid", "fillUp", "()I"⟩, 9) := ⟨⟨by decide +kernel, by decide +kernel⟩, List.mem_of_getElem? (i := 14) (by decide +kernel), List.mem_of_getElem? (i := 76) (by decide +kernel), List.mem_of_getElem? (i := 77) (by decide +kernel)⟩
theorem lw_p2 : lw_okq (⟨"BottlePyramid", "brokenInAll", "()I"⟩, 9) := ⟨⟨by decide +kernel, by decide +kernel⟩, List.mem_of_getElem? (i := 14) (by decide +kernel), List.mem_of_getElem? (i := 94) (by decide +kernel), List.mem_of_getElem? (i := 95) (by decide +kernel)⟩
theorem lw_p3 : lw_okq (⟨"BottlePyramid", "possibleThefts", "()I"⟩, 9) := ⟨⟨by decide +kernel, by decide +kernel⟩, List.mem_of_getElem? (i := 14) (by decide +kernel), List.mem_of_getElem? (i := 98) (by decide +kernel), List.mem_of_getElem? (i := 99) (by decide +kernel)⟩
theorem lw_p4 : lw_okq (⟨"BottlePyramid", "reasonAgainst", "(II)I"⟩, 9) := ⟨⟨by decide +kernel, by decide +kernel⟩, List.mem_of_getElem? (i := 14) (by decide +kernel), List.mem_of_getElem? (i := 102) (by decide +kernel), List.mem_of_getElem? (i := 103) (by decide +kernel)⟩
theorem lw_p5 : lw_okq (⟨"BottlePyramid", "isBarring", "()Z"⟩, 9) := ⟨⟨by decide +kernel, by decide +kernel⟩, List.mem_of_getElem? (i := 14) (by decide +kernel), List.mem_of_getElem? (i := 116) (by decide +kernel), List.mem_of_getElem? (i := 117) (by decide +kernel)⟩
theorem lw_p6 : lw_okq (⟨"BottlePyramid", "winner", "()I"⟩, 9) := ⟨⟨by decide +kernel, by decide +kernel⟩, List.mem_of_getElem? (i := 14) (by decide +kernel), List.mem_of_getElem? (i := 120) (by decide +kernel), List.mem_of_getElem? (i := 121) (by decide +kernel)⟩
theorem lw_p7 : lw_okq (⟨"java/lang/Throwable", "fillInStackTrace", "(I)Ljava/lang/Throwable;"⟩, 6) := ⟨⟨by decide +kernel, by decide +kernel⟩, List.mem_of_getElem? (i := 162) (by decide +kernel), List.mem_of_getElem? (i := 160) (by decide +kernel), List.mem_of_getElem? (i := 161) (by decide +kernel)⟩
theorem lw_p8 : lw_okq (⟨"BottlePyramid", "play", "()LBottlePyramid$Play;"⟩, 9) := ⟨⟨by decide +kernel, by decide +kernel⟩, List.mem_of_getElem? (i := 14) (by decide +kernel), List.mem_of_getElem? (i := 196) (by decide +kernel), List.mem_of_getElem? (i := 197) (by decide +kernel)⟩
theorem lw_p9 : lw_okq (⟨"BottlePyramid$Play", "playOut", "(II)V"⟩, 7) := ⟨⟨by decide +kernel, by decide +kernel⟩, List.mem_of_getElem? (i := 199) (by decide +kernel), List.mem_of_getElem? (i := 205) (by decide +kernel), List.mem_of_getElem? (i := 206) (by decide +kernel)⟩
theorem lw_p10 : lw_okq (⟨"BottlePyramid$Play", "slotBehind", "(IIII)I"⟩, 7) := ⟨⟨by decide +kernel, by decide +kernel⟩, List.mem_of_getElem? (i := 199) (by decide +kernel), List.mem_of_getElem? (i := 209) (by decide +kernel), List.mem_of_getElem? (i := 210) (by decide +kernel)⟩
theorem lw_p11 : lw_okq (⟨"BottlePyramid$Play", "slotOf", "(II)I"⟩, 7) := ⟨⟨by decide +kernel, by decide +kernel⟩, List.mem_of_getElem? (i := 199) (by decide +kernel), List.mem_of_getElem? (i := 215) (by decide +kernel), List.mem_of_getElem? (i := 216) (by decide +kernel)⟩
theorem lw_p12 : lw_okq (⟨"BottlePyramid$Play", "shapesWonBy", "(I)I"⟩, 7) := ⟨⟨by decide +kernel, by decide +kernel⟩, List.mem_of_getElem? (i := 199) (by decide +kernel), List.mem_of_getElem? (i := 248) (by decide +kernel), List.mem_of_getElem? (i := 249) (by decide +kernel)⟩
theorem lw_p13 : lw_okq (⟨"BottlePyramid$Play", "shapesOver", "()I"⟩, 7) := ⟨⟨by decide +kernel, by decide +kernel⟩, List.mem_of_getElem? (i := 199) (by decide +kernel), List.mem_of_getElem? (i := 252) (by decide +kernel), List.mem_of_getElem? (i := 253) (by decide +kernel)⟩
theorem lw_p14 : lw_okq (⟨"BottlePyramid", "steal", "(II)I"⟩, 9) := ⟨⟨by decide +kernel, by decide +kernel⟩, List.mem_of_getElem? (i := 14) (by decide +kernel), List.mem_of_getElem? (i := 319) (by decide +kernel), List.mem_of_getElem? (i := 320) (by decide +kernel)⟩
theorem lw_p15 : lw_okq (⟨"BottlePyramid", "letFall", "(I)I"⟩, 9) := ⟨⟨by decide +kernel, by decide +kernel⟩, List.mem_of_getElem? (i := 14) (by decide +kernel), List.mem_of_getElem? (i := 324) (by decide +kernel), List.mem_of_getElem? (i := 325) (by decide +kernel)⟩
def lw_privs_1 : List (MethodName × Nat) := [(⟨"BottlePyramid", "save", "()V"⟩, 9), (⟨"BottlePyramid", "fillUp", "()I"⟩, 9), (⟨"BottlePyramid", "brokenInAll", "()I"⟩, 9), (⟨"BottlePyramid", "possibleThefts", "()I"⟩, 9), (⟨"BottlePyramid", "reasonAgainst", "(II)I"⟩, 9), (⟨"BottlePyramid", "isBarring", "()Z"⟩, 9), (⟨"BottlePyramid", "winner", "()I"⟩, 9), (⟨"java/lang/Throwable", "fillInStackTrace", "(I)Ljava/lang/Throwable;"⟩, 6), (⟨"BottlePyramid", "play", "()LBottlePyramid$Play;"⟩, 9), (⟨"BottlePyramid$Play", "playOut", "(II)V"⟩, 7), (⟨"BottlePyramid$Play", "slotBehind", "(IIII)I"⟩, 7), (⟨"BottlePyramid$Play", "slotOf", "(II)I"⟩, 7), (⟨"BottlePyramid$Play", "shapesWonBy", "(I)I"⟩, 7), (⟨"BottlePyramid$Play", "shapesOver", "()I"⟩, 7), (⟨"BottlePyramid", "steal", "(II)I"⟩, 9), (⟨"BottlePyramid", "letFall", "(I)I"⟩, 9)]
theorem lw_r1 : ∀ q ∈ lw_privs_1, lw_okq q := List.forall_mem_cons.mpr ⟨lw_p0, List.forall_mem_cons.mpr ⟨lw_p1, List.forall_mem_cons.mpr ⟨lw_p2, List.forall_mem_cons.mpr ⟨lw_p3, List.forall_mem_cons.mpr ⟨lw_p4, List.forall_mem_cons.mpr ⟨lw_p5, List.forall_mem_cons.mpr ⟨lw_p6, List.forall_mem_cons.mpr ⟨lw_p7, List.forall_mem_cons.mpr ⟨lw_p8, List.forall_mem_cons.mpr ⟨lw_p9, List.forall_mem_cons.mpr ⟨lw_p10, List.forall_mem_cons.mpr ⟨lw_p11, List.forall_mem_cons.mpr ⟨lw_p12, List.forall_mem_cons.mpr ⟨lw_p13, List.forall_mem_cons.mpr ⟨lw_p14, List.forall_mem_cons.mpr ⟨lw_p15, fun _ h => absurd h List.not_mem_nil⟩⟩⟩⟩⟩⟩⟩⟩⟩⟩⟩⟩⟩⟩⟩⟩
theorem lw_p16 : lw_okq (⟨"BottlePyramid", "knockOut", "(II)I"⟩, 9) := ⟨⟨by decide +kernel, by decide +kernel⟩, List.mem_of_getElem? (i := 14) (by decide +kernel), List.mem_of_getElem? (i := 348) (by decide +kernel), List.mem_of_getElem? (i := 349) (by decide +kernel)⟩
theorem lw_p17 : lw_okq (⟨"BottlePyramid", "addBottle", "(II)I"⟩, 9) := ⟨⟨by decide +kernel, by decide +kernel⟩, List.mem_of_getElem? (i := 14) (by decide +kernel), List.mem_of_getElem? (i := 365) (by decide +kernel), List.mem_of_getElem? (i := 366) (by decide +kernel)⟩
theorem lw_p18 : lw_okq (⟨"BottlePyramid", "lowestPlace", "(I)I"⟩, 9) := ⟨⟨by decide +kernel, by decide +kernel⟩, List.mem_of_getElem? (i := 14) (by decide +kernel), List.mem_of_getElem? (i := 418) (by decide +kernel), List.mem_of_getElem? (i := 419) (by decide +kernel)⟩
theorem lw_p19 : lw_okq (⟨"BottlePyramid", "highestPlace", "(I)I"⟩, 9) := ⟨⟨by decide +kernel, by decide +kernel⟩, List.mem_of_getElem? (i := 14) (by decide +kernel), List.mem_of_getElem? (i := 422) (by decide +kernel), List.mem_of_getElem? (i := 423) (by decide +kernel)⟩
theorem lw_p20 : lw_okq (⟨"BottlePyramid", "greatestTheft", "(I)I"⟩, 9) := ⟨⟨by decide +kernel, by decide +kernel⟩, List.mem_of_getElem? (i := 14) (by decide +kernel), List.mem_of_getElem? (i := 426) (by decide +kernel), List.mem_of_getElem? (i := 427) (by decide +kernel)⟩
theorem lw_p21 : lw_okq (⟨"BottlePyramid", "maskBehind", "(II)I"⟩, 9) := ⟨⟨by decide +kernel, by decide +kernel⟩, List.mem_of_getElem? (i := 14) (by decide +kernel), List.mem_of_getElem? (i := 450) (by decide +kernel), List.mem_of_getElem? (i := 451) (by decide +kernel)⟩
theorem lw_p22 : lw_okq (⟨"BottlePyramid$Play", "isWonBy", "(II)Z"⟩, 7) := ⟨⟨by decide +kernel, by decide +kernel⟩, List.mem_of_getElem? (i := 199) (by decide +kernel), List.mem_of_getElem? (i := 454) (by decide +kernel), List.mem_of_getElem? (i := 455) (by decide +kernel)⟩
theorem lw_p23 : lw_okq (⟨"BottlePyramid$Play", "longestGame", "(II)I"⟩, 7) := ⟨⟨by decide +kernel, by decide +kernel⟩, List.mem_of_getElem? (i := 199) (by decide +kernel), List.mem_of_getElem? (i := 463) (by decide +kernel), List.mem_of_getElem? (i := 464) (by decide +kernel)⟩
theorem lw_p24 : lw_okq (⟨"BottlePyramid$Play", "shortestGame", "(II)I"⟩, 7) := ⟨⟨by decide +kernel, by decide +kernel⟩, List.mem_of_getElem? (i := 199) (by decide +kernel), List.mem_of_getElem? (i := 467) (by decide +kernel), List.mem_of_getElem? (i := 468) (by decide +kernel)⟩
theorem lw_p25 : lw_okq (⟨"BottlePyramid", "swapSides", "()I"⟩, 9) := ⟨⟨by decide +kernel, by decide +kernel⟩, List.mem_of_getElem? (i := 14) (by decide +kernel), List.mem_of_getElem? (i := 482) (by decide +kernel), List.mem_of_getElem? (i := 483) (by decide +kernel)⟩
def lw_privs_2 : List (MethodName × Nat) := [(⟨"BottlePyramid", "knockOut", "(II)I"⟩, 9), (⟨"BottlePyramid", "addBottle", "(II)I"⟩, 9), (⟨"BottlePyramid", "lowestPlace", "(I)I"⟩, 9), (⟨"BottlePyramid", "highestPlace", "(I)I"⟩, 9), (⟨"BottlePyramid", "greatestTheft", "(I)I"⟩, 9), (⟨"BottlePyramid", "maskBehind", "(II)I"⟩, 9), (⟨"BottlePyramid$Play", "isWonBy", "(II)Z"⟩, 7), (⟨"BottlePyramid$Play", "longestGame", "(II)I"⟩, 7), (⟨"BottlePyramid$Play", "shortestGame", "(II)I"⟩, 7), (⟨"BottlePyramid", "swapSides", "()I"⟩, 9)]
theorem lw_r2 : ∀ q ∈ lw_privs_2, lw_okq q := List.forall_mem_cons.mpr ⟨lw_p16, List.forall_mem_cons.mpr ⟨lw_p17, List.forall_mem_cons.mpr ⟨lw_p18, List.forall_mem_cons.mpr ⟨lw_p19, List.forall_mem_cons.mpr ⟨lw_p20, List.forall_mem_cons.mpr ⟨lw_p21, List.forall_mem_cons.mpr ⟨lw_p22, List.forall_mem_cons.mpr ⟨lw_p23, List.forall_mem_cons.mpr ⟨lw_p24, List.forall_mem_cons.mpr ⟨lw_p25, fun _ h => absurd h List.not_mem_nil⟩⟩⟩⟩⟩⟩⟩⟩⟩⟩
def lw_privs : List (MethodName × Nat) := lw_privs_1 ++ (lw_privs_2)
def lw_tbl : List Cond := k2_sels lw_privs ++ tables_1
theorem lw_privs_ok : ∀ q ∈ lw_privs, lw_okq q := by
  show ∀ q ∈ lw_privs_1 ++ (lw_privs_2), lw_okq q
  exact List.forall_mem_append.mpr ⟨lw_r1, lw_r2⟩
/-- the streams that the claim lets the run draw from -/
abbrev lw_cs : List Choice := [Jvm.Choice.named "NaN.bits"]
theorem lw_bits : nanBits ∈ lw_cs := by first | decide | exact List.mem_cons_self | simp [lw_cs, nanBits]
end
section
/-! ===== BEGIN words of one list among another's, by their places ===== -/
theorem goodIn_r {big : List Cond} (ws : List Cond) (ps : List Nat) (hp : ws = ps.filterMap (fun i => big[i]?)) (h : ws.all goodWord = true) : GoodIn big ws := by
  intro w hw
  have h1 := List.all_eq_true.mp h w hw
  rw [hp] at hw
  obtain ⟨i, -, hi⟩ := List.mem_filterMap.mp hw
  have hm : w ∈ big := by first | exact List.mem_of_getElem? hi | exact List.getElem?_mem hi
  exact ⟨hm, good_of_word h1⟩
theorem goodIn_app {big a b : List Cond} (ha : GoodIn big a) (hb : GoodIn big b) : GoodIn big (a ++ b) := fun w h => (List.mem_append.mp h).elim (ha w) (hb w)
theorem goodIn_ca {big a b : List Cond} {c : Cond} (ha : GoodIn big (c :: a)) (hb : GoodIn big b) : GoodIn big (c :: (a ++ b)) := fun w h => (List.mem_cons.mp h).elim (fun e => ha w (List.mem_cons.mpr (Or.inl e))) (fun h => (List.mem_append.mp h).elim (fun h => ha w (List.mem_cons.mpr (Or.inr h))) (hb w))
theorem goodIn_sub {big ws : List Cond} (hm : ∀ w ∈ ws, w ∈ big) (h : ws.all goodWord = true) : GoodIn big ws := fun w hw => ⟨hm w hw, good_of_word (List.all_eq_true.mp h w hw)⟩
/-! ===== END ===== -/

/-! ===== BEGIN exceptions that leave a method, and their catching by the caller (launches without stack traces) ===== -/
section VXA
/-! The laws vx_back, vx_callV, vx_callS, vx_callSW, vx_throw0, vx_throwS follow proofs of the library, with one case more: JvmDerived/Free/Laws.lean (Back.of_free), Shelf42/LK1.lean (callV, callS), Shelf/KitTraced.lean (throwNew0V, throwNewS). -/
/-- where a method has thrown q: the class by its name, the cell, what was written, the world -/
def vx_T (XC : String → State → State → Prop) (st : State) (q : Addr) (t : State) (mc ms : Nat) (free : Addr → Prop) : Prop :=
  ∃ (E : String) (ce : Cell) (L : List Loc), XC E st t ∧ t.heap[q]? = some ce ∧ ce.vm = .none ∧ st.vm.findClass E = some ce.cls ∧ st.WarmedH t.vm ∧ st.sameButNew ({ t with vm := st.vm } : State) L mc ms ∧ ∀ z ∈ L, free z.base
def vx_Q (Qc : Array Value → State → Outcome → State → Prop) (XC : String → State → State → Prop) (mc ms : Nat) (free : Addr → Prop) : Array Value → State → Outcome → State → Prop := fun a st o t =>
  (Qc a st o t ∧ ∃ L, FrameEnd st o t L mc ms ∧ ∀ q ∈ L, free q.base) ∨ ∃ q, o = .threw q ∧ vx_T XC st q t mc ms free
/-- a callee that returns or throws -/
def vx_Met (l : Launch) (y : MethodName) (ws : List Cond) (rm : Room) (Pc : Array Value → State → Prop) (Qc : Array Value → State → Outcome → State → Prop) (XC : String → State → State → Prop) (mc ms : Nat) (free : Addr → Prop) : Prop :=
  MetFree l y (headSpec ws rm) Pc (fun _ _ _ _ _ => True) (vx_Q Qc XC mc ms free)
def vx_Post (XC : String → State → State → Prop) (mc ms : Nat) (free : Addr → Prop) : Pt → Array Value → Addr → Pt → Prop := fun A a q B =>
  ∃ (g : JFrame) (mk : MethodId) (t : State) (L : List Loc) (E : String) (ce : Cell), B.U.heap = t.heap ∧ B.U.vm = t.vm ∧ XC E (A.U.calling g mk a) t ∧ t.heap[q]? = some ce ∧ ce.vm = .none ∧ A.U.vm.findClass E = some ce.cls ∧ B.locs = A.locs ++ L ∧ (∀ z ∈ L, free z.base) ∧ B.cells = A.cells + mc ∧ B.slots = A.slots + ms
def vx_Back (l : Launch) (R : Room) (p : Program) (e : Env) (below : List Frame) (s : State) (sargs : Array Value) (y : MethodName) (len W9 : Nat)
    (Pre : Pt → Array Value → Prop) (Post : Pt → Array Value → Option Value → Pt → Prop) (PostX : Pt → Array Value → Addr → Pt → Prop) : Prop :=
  ∀ (m : MethodId) (meth : Method) (c : Code) (A : Pt) (g : JFrame) (ig : Instr) (mk : MethodId) (a : Array Value),
    Stand p l e R s m sargs below meth c A.U A.locs A.cells A.slots → g.method = m → g.locals.size = c.maxLocals → decode c.code g.pc = .ok (ig, len) →
    2 * g.monitorRoom + (g.stack.map fun v => v.category).sum ≤ W9 → A.U.methodNamed? y = some mk → Pre A a →
    (∃ (v : Option Value) (B : Pt), Stand p l e R s m sargs below meth c B.U B.locs B.cells B.slots ∧ Post A a v B ∧
      Steps p.tables e below (doInvoke e (A.U.setTop g) [] mk a).1 (B.U.setTop { g with pc := g.pc + len, stack := v.toList ++ g.stack })) ∨
    (∃ (q : Addr) (B : Pt), Stand p l e R s m sargs below meth c B.U B.locs B.cells B.slots ∧ PostX A a q B ∧
      Steps p.tables e below (doInvoke e (A.U.setTop g) [] mk a).1 ((B.U.setTop g).pushFrame (.throwing q)))
section Payer
variable {l : Launch} {R : Room} {p : Program} {e : Env} {below : List Frame} {s : State} {sargs : Array Value} {y : MethodName} {len W9 : Nat}
theorem vx_back {ws : List Cond} {rm : Room} {Pc : Array Value → State → Prop} {Qc : Array Value → State → Outcome → State → Prop} {XC : String → State → State → Prop} {mc ms : Nat} {free : Addr → Prop} {bytes : ByteArray} {maxL : Nat} {ret : Option FieldType}
    (hM : vx_Met l y ws rm Pc Qc XC mc ms free) (hblind : FrameBlind Pc) (hrc : rm.cells = mc) (hrs : rm.slots = ms)
    (hframes : rm.frames + 1 ≤ R.frames) (hlocals : W9 + (maxL + 11) + rm.locals ≤ R.locals)
    (hws : ∀ w ∈ ws, ∀ a' U, s.WarmedH U.vm → w.before a' U = true) (hcode : Cond.code y bytes maxL ret ∈ ws) (hinit : ∀ a' U, s.WarmedH U.vm → (Cond.initialized y.cls).before a' U = true) :
    vx_Back l R p e below s sargs y len W9 (PreOf R mc ms Pc) (PostOf Qc mc ms free) (vx_Post XC mc ms free) := by
  intro m meth c A g ig mk a X hg hsize hdg hW hn hp
  have h1 : (headSpec ws rm).pre.before a A.U = true := atoms_intro fun w hw => hws w hw _ _ X.warmed
  have h2 : (Cond.code y bytes maxL ret).before a A.U = true := hws _ hcode _ _ X.warmed
  have h3 : (Cond.initialized y.cls).before a A.U = true := hinit _ _ X.warmed
  have h4 : A.cells + (headSpec ws rm).room.cells ≤ R.cells := by rw [show (headSpec ws rm).room.cells = mc from hrc]; exact hp.1
  have h5 : A.slots + (headSpec ws rm).room.slots ≤ R.slots := by rw [show (headSpec ws rm).room.slots = ms from hrs]; exact hp.2.1
  have hPc : Pc a (A.U.calling g mk a) := hblind _ _ _ _ hp.2.2
  obtain ⟨U, Ls, c0, s0⟩ := A
  dsimp only [Pt.U, Pt.locs, Pt.cells, Pt.slots] at h1 h2 h3 h4 h5 X hn hPc ⊢
  obtain ⟨methY, cY, hmY, hcY, -, hlY, -, -, -, -⟩ := Cond.code_spec hn h2
  obtain ⟨kY, hkY, -⟩ := className_of_methodNamed hn
  have hinitY : kY.init = .initialized := Cond.initialized_spec (findClass_of_methodNamed hn) hkY h3
  have h : At U g.method c below := by rw [hg]; exact X.here
  have hlocals9 : W9 + (maxL + 11) + (headSpec ws rm).room.locals ≤ R.locals := hlocals
  have happ : (headSpec ws rm).appliesLoose y e.platform (U.calling g mk a) = true :=
    Spec.appliesLoose_calling (g := g) h hdg hn hkY hinitY
      (X.room_calling (g := g) (R' := (headSpec ws rm).room) hsize hmY hcY hframes (by rw [hlY]; omega) h4 h5) h1
  obtain ⟨mid, hmid⟩ := h.above
  have hfr : (U.setTop g).frames = (.java g :: mid) ++ below := by rw [State.frames_setTop' g h.top, hmid]; rfl
  obtain ⟨o, s₂, hsteps, -, hend, hq⟩ := Steps.callFree hM p X.admits X.cas X.clock (acts := []) hfr happ hPc trivial
  have hq' : vx_Q Qc XC mc ms free a (U.calling g mk a) o s₂ := hq
  rw [State.frames_setTop' g h.top] at hend
  obtain ⟨g₀, hg0⟩ := Option.isSome_iff_exists.mp h.top
  obtain ⟨r, hr⟩ := State.topJava?_eq_some.mp hg0
  have hr' : (({ U with heap := s₂.heap, slotsUsed := s₂.slotsUsed } : State).setVm s₂.vm).frames = .java g₀ :: r := hr
  rcases hq' with ⟨hqc, L, hfe, hL⟩ | ⟨q, rfl, E, ce, L, hx, hce, hcv, hcl, hW₂, hsm, hL⟩
  · obtain ⟨⟨v, rfl⟩, hW₂, e2, q2, q3, q4, q5, q6⟩ := id hfe
    have e3 : s₂ = ({ (U.calling g mk a).setFrames s₂.frames with heap := s₂.heap, slotsUsed := s₂.slotsUsed } : State).setVm s₂.vm := by
      have : s₂ = ({ s₂ with vm := (U.calling g mk a).vm } : State).setVm s₂.vm := rfl
      rw [e2] at this
      exact this
    obtain ⟨c₂, i₂, len₂, hc₂, hd₂, hf₂⟩ := hend
    have hW' : U.WarmedH s₂.vm := hW₂
    have hcc : c₂ = c := by
      have h1 : s₂.code? g.method = U.code? g.method := by
        rw [State.code?_eq, State.code?_eq, hW'.alike.method?]
      exact Option.some.inj (hc₂.symm.trans (h1.trans h.code))
    subst hcc
    have hlen : len₂ = len := by rw [hdg] at hd₂; cases hd₂; rfl
    subst hlen
    have hs₂ : s₂ = (({ U with heap := s₂.heap, slotsUsed := s₂.slotsUsed } : State).setVm s₂.vm).setTop { g with pc := g.pc + len₂, stack := v.toList ++ g.stack } := by
      refine e3.trans ?_
      rw [hf₂, State.calling_eq h.top, State.setFrames_setFrames, State.setTop_of_frames _ hr', hr]
      rfl
    have hsame : U.sameButNew ({ U with heap := s₂.heap, slotsUsed := s₂.slotsUsed } : State) L mc ms := by
      refine ⟨?_, q2, q3, q4, q5, q6⟩
      obtain ⟨t, ht, -⟩ := State.frames_cons hr
      show ({ U with heap := s₂.heap, slotsUsed := s₂.slotsUsed } : State) = { U.setFrames U.frames with heap := s₂.heap, slotsUsed := s₂.slotsUsed }
      rw [State.setFrames_self ht]
    subst hg
    refine Or.inl ⟨v, ⟨(({ U with heap := s₂.heap, slotsUsed := s₂.slotsUsed } : State).setVm s₂.vm), Ls ++ L, c0 + mc, s0 + ms⟩,
      ⟨X.admits, X.cas, X.clock, X.frames, X.room, X.hears, X.method, X.code, (X.here.setHeapUsed s₂.heap s₂.slotsUsed).setVm hW'.alike, X.tail, State.WarmedH.trans X.warmed hW', X.limits, X.bytes, X.same.trans (hsame.setVm s.vm)⟩,
      ⟨g, mk, s₂, L, rfl, rfl, hqc, rfl, hL, rfl, rfl⟩, ?_⟩
    show Steps p.tables e below _ ((({ U with heap := s₂.heap, slotsUsed := s₂.slotsUsed } : State).setVm s₂.vm).setTop { g with pc := g.pc + len₂, stack := v.toList ++ g.stack })
    rw [← hs₂]
    exact hsteps
  · obtain ⟨e2, q2, q3, q4, q5, q6⟩ := id hsm
    have e3 : s₂ = ({ (U.calling g mk a).setFrames s₂.frames with heap := s₂.heap, slotsUsed := s₂.slotsUsed } : State).setVm s₂.vm := by
      have : s₂ = ({ s₂ with vm := (U.calling g mk a).vm } : State).setVm s₂.vm := rfl
      rw [e2] at this
      exact this
    have hf₂ : s₂.frames = .throwing q :: .java g :: U.frames.tail := hend
    have hW' : U.WarmedH s₂.vm := hW₂
    have hs₂ : s₂ = ((({ U with heap := s₂.heap, slotsUsed := s₂.slotsUsed } : State).setVm s₂.vm).setTop g).pushFrame (.throwing q) := by
      refine e3.trans ?_
      rw [hf₂, State.calling_eq h.top, State.setFrames_setFrames, State.pushFrame, State.frames_setTop _ hr', State.setTop_of_frames _ hr', State.setFrames_setFrames, hr]
      rfl
    have hsame : U.sameButNew ({ U with heap := s₂.heap, slotsUsed := s₂.slotsUsed } : State) L mc ms := by
      refine ⟨?_, q2, q3, q4, q5, q6⟩
      obtain ⟨t, ht, -⟩ := State.frames_cons hr
      show ({ U with heap := s₂.heap, slotsUsed := s₂.slotsUsed } : State) = { U.setFrames U.frames with heap := s₂.heap, slotsUsed := s₂.slotsUsed }
      rw [State.setFrames_self ht]
    subst hg
    refine Or.inr ⟨q, ⟨(({ U with heap := s₂.heap, slotsUsed := s₂.slotsUsed } : State).setVm s₂.vm), Ls ++ L, c0 + mc, s0 + ms⟩,
      ⟨X.admits, X.cas, X.clock, X.frames, X.room, X.hears, X.method, X.code, (X.here.setHeapUsed s₂.heap s₂.slotsUsed).setVm hW'.alike, X.tail, State.WarmedH.trans X.warmed hW', X.limits, X.bytes, X.same.trans (hsame.setVm s.vm)⟩,
      ⟨g, mk, s₂, L, E, ce, rfl, rfl, hx, hce, hcv, hcl, rfl, hL, rfl, rfl⟩, ?_⟩
    show Steps p.tables e below _ (((({ U with heap := s₂.heap, slotsUsed := s₂.slotsUsed } : State).setVm s₂.vm).setTop g).pushFrame (.throwing q))
    rw [← hs₂]
    exact hsteps
end Payer
section Calls
variable {p : Program} {l : Launch} {e : Env} {R : Room} {s : State} {m : MethodId} {args : Array Value} {below : List Frame} {meth : Method} {c : Code} {T : State} {locs : List Loc} {cells slots : Nat}
theorem vx_callV (X : Stand p l e R s m args below meth c T locs cells slots) (hexec : p.tables.exec = Jvm.exec) {own C : String} {index : Nat} {y : MethodName} {bytes : ByteArray} {maxL : Nat} {ret : Option FieldType}
    (hown : s.vm.findClass own = some m.cls) (hlink : (Cond.methodLink own index y).before args s = true) (hinst : (Cond.instanceMethod y).before args s = true) (hsel : (Cond.selects C y y).before args s = true)
    (hcode : (Cond.code y bytes maxL ret).before args s = true) (hy : y.cls ≠ "java/lang/invoke/MethodHandle" ∧ y.cls ≠ "java/lang/invoke/VarHandle")
    {W9 : Nat} {Pre : Pt → Array Value → Prop} {Post : Pt → Array Value → Option Value → Pt → Prop} {PostX : Pt → Array Value → Addr → Pt → Prop} (hK : vx_Back l R p e below s args y 3 W9 Pre Post PostX)
    {b : Addr} {cellB : Cell} (hcell : T.heap[b]? = some cellB) (hobj : cellB.vm.isStatics = false) (hcls : s.vm.findClass C = some cellB.cls)
    {g : JFrame} (hg : g.method = m) (hsize : g.locals.size = c.maxLocals) {argsL rest : List Value} (hlen : ∀ sig, parseMethodDescriptor y.desc = some sig → argsL.length = sig.parameters.length)
    (hstack : g.stack = argsL.reverse ++ .ref b :: rest) (hW : 2 * g.monitorRoom + (rest.map fun v => v.category).sum ≤ W9) (hdg : decode c.code g.pc = .ok (.invokevirtual index, 3))
    (hpre : ∀ vm₁, s.WarmedH vm₁ → Pre ⟨T.setVm vm₁, locs, cells, slots⟩ (Value.ref b :: argsL).toArray) :
    (∃ (v : Option Value) (vm₁ : Vm) (B : Pt), s.WarmedH vm₁ ∧ Stand p l e R s m args below meth c B.U B.locs B.cells B.slots ∧ Post ⟨T.setVm vm₁, locs, cells, slots⟩ (Value.ref b :: argsL).toArray v B ∧
      ∀ target, Steps p.tables e below (B.U.setTop { g with pc := g.pc + 3, stack := v.toList ++ rest }) target → Steps p.tables e below (T.setTop g) target) ∨
    (∃ (q : Addr) (vm₁ : Vm) (B : Pt), s.WarmedH vm₁ ∧ Stand p l e R s m args below meth c B.U B.locs B.cells B.slots ∧ PostX ⟨T.setVm vm₁, locs, cells, slots⟩ (Value.ref b :: argsL).toArray q B ∧
      Steps p.tables e below (T.setTop g) ((B.U.setTop { g with stack := rest }).pushFrame (.throwing q))) := by
  obtain ⟨mk, methM, hnamed, hmethM, hstM, habM⟩ := Cond.instanceMethod_spec hinst
  obtain ⟨methM', cM, hmethM', -, -, -, -, -, -, hsigM⟩ := Cond.code_spec hnamed hcode
  cases hmethM.symm.trans hmethM'
  obtain ⟨c2, r2, m2, q1, q2, q3, q4, kP, hkP, hkPi⟩ := Cond.selects_spec hsel
  cases hcls.symm.trans q1
  cases (State.methodFound?_of_named hnamed hy).symm.trans q2
  cases hnamed.symm.trans q3
  have hselP : selectMethod e.platform s.vm cellB.cls mk = .method mk := by rw [Launch.admits_selectMethod X.admits]; exact q4
  obtain ⟨vm₁, X₁, hstep₁⟩ := X.invokevirtual hexec hown hlink hnamed hmethM hstM hkP hkPi hy (a := b) (cell := cellB) hcell
    (fun z h => by rw [h] at hobj; cases hobj) hselP hmethM habM hkP hkPi (g := g) hg (argsL := argsL) (rest := rest) (hlen _ hsigM) hstack hdg
  rcases hK m meth c ⟨T.setVm vm₁, locs, cells, slots⟩ { g with stack := rest } (.invokevirtual index) mk (Value.ref b :: argsL).toArray X₁ hg hsize hdg hW (X₁.named hnamed) (hpre vm₁ X₁.warmed) with ⟨v, B, X', hpost, hsteps⟩ | ⟨q, B, X', hpost, hsteps⟩
  · exact Or.inl ⟨v, vm₁, B, X₁.warmed, X', hpost, fun target h => hstep₁ _ fun acts => by rw [doInvoke_state]; exact hsteps.trans h⟩
  · exact Or.inr ⟨q, vm₁, B, X₁.warmed, X', hpost, hstep₁ _ fun acts => by rw [doInvoke_state]; exact hsteps⟩
theorem vx_callS (X : Stand p l e R s m args below meth c T locs cells slots) (hexec : p.tables.exec = Jvm.exec) {own : String} {index : Nat} {y : MethodName} {bytes : ByteArray} {maxL : Nat} {ret : Option FieldType}
    (hown : s.vm.findClass own = some m.cls) (hlink : (Cond.methodLink own index y).before args s = true) (hstat : (Cond.static y).before args s = true) (hinit : (Cond.initialized y.cls).before args s = true)
    (hcode : (Cond.code y bytes maxL ret).before args s = true) (hy : y.cls ≠ "java/lang/invoke/MethodHandle" ∧ y.cls ≠ "java/lang/invoke/VarHandle")
    {W9 : Nat} {Pre : Pt → Array Value → Prop} {Post : Pt → Array Value → Option Value → Pt → Prop} {PostX : Pt → Array Value → Addr → Pt → Prop} (hK : vx_Back l R p e below s args y 3 W9 Pre Post PostX)
    {g : JFrame} (hg : g.method = m) (hsize : g.locals.size = c.maxLocals) {argsL rest : List Value} (hlen : ∀ sig, parseMethodDescriptor y.desc = some sig → argsL.length = sig.parameters.length)
    (hstack : g.stack = argsL.reverse ++ rest) (hW : 2 * g.monitorRoom + (rest.map fun v => v.category).sum ≤ W9) (hdg : decode c.code g.pc = .ok (.invokestatic index, 3))
    (hpre : ∀ vm₁, s.WarmedH vm₁ → Pre ⟨T.setVm vm₁, locs, cells, slots⟩ argsL.toArray) :
    (∃ (v : Option Value) (vm₁ : Vm) (B : Pt), s.WarmedH vm₁ ∧ Stand p l e R s m args below meth c B.U B.locs B.cells B.slots ∧ Post ⟨T.setVm vm₁, locs, cells, slots⟩ argsL.toArray v B ∧
      ∀ target, Steps p.tables e below (B.U.setTop { g with pc := g.pc + 3, stack := v.toList ++ rest }) target → Steps p.tables e below (T.setTop g) target) ∨
    (∃ (q : Addr) (vm₁ : Vm) (B : Pt), s.WarmedH vm₁ ∧ Stand p l e R s m args below meth c B.U B.locs B.cells B.slots ∧ PostX ⟨T.setVm vm₁, locs, cells, slots⟩ argsL.toArray q B ∧
      Steps p.tables e below (T.setTop g) ((B.U.setTop { g with stack := rest }).pushFrame (.throwing q))) := by
  obtain ⟨mk, hnamed⟩ := Cond.code_named hcode
  obtain ⟨methM, cM, hmethM, -, -, -, -, -, -, hsigM⟩ := Cond.code_spec hnamed hcode
  have hstatic : methM.isStatic = true := Cond.static_spec hnamed hmethM hstat
  obtain ⟨kP, hkP, -⟩ := className_of_methodNamed hnamed
  have hinitP : kP.init = .initialized := Cond.initialized_spec (findClass_of_methodNamed hnamed) hkP hinit
  obtain ⟨vm₁, X₁, hstep₁⟩ := X.invokestatic hexec hown hlink hnamed hmethM hstatic hkP hinitP hy (g := g) hg (argsL := argsL) (rest := rest) (hlen _ hsigM) hstack hdg
  rcases hK m meth c ⟨T.setVm vm₁, locs, cells, slots⟩ { g with stack := rest } (.invokestatic index) mk argsL.toArray X₁ hg hsize hdg hW (X₁.named hnamed) (hpre vm₁ X₁.warmed) with ⟨v, B, X', hpost, hsteps⟩ | ⟨q, B, X', hpost, hsteps⟩
  · exact Or.inl ⟨v, vm₁, B, X₁.warmed, X', hpost, fun target h => hstep₁ _ fun acts => by rw [doInvoke_state]; exact hsteps.trans h⟩
  · exact Or.inr ⟨q, vm₁, B, X₁.warmed, X', hpost, hstep₁ _ fun acts => by rw [doInvoke_state]; exact hsteps⟩
end Calls
theorem vx_cls {s : State} {T : State} {vm₁ : Vm} {E : String} {k : ClassId} (hW : s.WarmedH vm₁) (h : (T.setVm vm₁).vm.findClass E = some k) : s.vm.findClass E = some k := by
  have h1 : vm₁.findClass E = some k := h
  rw [hW.alike.findClass] at h1
  exact h1
/-- the method's frame g, with q thrown over it -/
def vx_W (p : Program) (l : Launch) (e : Env) (R : Room) (s : State) (m : MethodId) (args : Array Value) (below : List Frame) (meth : Method) (c : Code) (H : Heap) (locs : List Loc) (cells slots : Nat) (Q : State → Prop) (g : JFrame) (q : Addr) : Prop :=
  ∀ T : State, T.heap = H → Stand p l e R s m args below meth c T locs cells slots → ∃ t, Steps p.tables e below ((T.setTop g).pushFrame (.throwing q)) t ∧ Q t
def vx_Run (p : Program) (l : Launch) (e : Env) (R : Room) (s : State) (m : MethodId) (args : Array Value) (below : List Frame) (meth : Method) (c : Code) (H : Heap) (locs : List Loc) (cells slots mc ms : Nat) (g : JFrame) (rest : List Value) (Qa : State → Outcome → State → Prop) (XC : String → State → State → Prop) (free : Addr → Prop) : Prop :=
  ∀ T : State, T.heap = H → Stand p l e R s m args below meth c T locs cells slots →
    (∃ (v : Option Value) (st₀ t T' : State) (L : List Loc), st₀.heap = H ∧ Stand p l e R s m args below meth c T' (locs ++ L) (cells + mc) (slots + ms) ∧ (∀ q ∈ L, free q.base) ∧ T'.heap = t.heap ∧ T'.vm = t.vm ∧ Qa st₀ (.returned v) t ∧
      Goes p e below T g T' { g with pc := g.pc + 3, stack := v.toList ++ rest }) ∨
    (∃ (q : Addr) (st₀ t T' : State) (L : List Loc) (E : String) (ce : Cell), st₀.heap = H ∧ Stand p l e R s m args below meth c T' (locs ++ L) (cells + mc) (slots + ms) ∧ (∀ z ∈ L, free z.base) ∧ T'.heap = t.heap ∧ T'.vm = t.vm ∧ XC E st₀ t ∧ t.heap[q]? = some ce ∧ ce.vm = .none ∧ s.vm.findClass E = some ce.cls ∧
      Steps p.tables e below (T.setTop g) ((T'.setTop { g with stack := rest }).pushFrame (.throwing q)))
def vx_X {S : Type} (px : S → Prop) (B : String → S → State → Prop) (A : Nat → Prop) : String → State → State → Prop := fun E st t => ∃ u : S, px u ∧ B E u t ∧ va_F A st t
section Runs
variable {p : Program} {l : Launch} {e : Env} {R : Room} {s : State} {m : MethodId} {args : Array Value} {below : List Frame} {meth : Method} {c : Code} {H : Heap} {locs : List Loc} {cells slots : Nat}
variable {y : MethodName} {bytes cc : ByteArray} {maxL nL mc ms n index : Nat} {ret : Option FieldType} {ws : List Cond} {rm : Room} {Pc : Array Value → State → Prop} {Qc : Array Value → State → Outcome → State → Prop} {XC : String → State → State → Prop} {free : Addr → Prop} {Ts : List Cond} {own C : String} {b : Addr} {As rest : List Value} {g : JFrame}
theorem vx_callBack (cb : CallB R s args own index y bytes maxL ret ws rm mc ms n) (hM : vx_Met l y ws rm Pc Qc XC mc ms free) (hbl : FrameBlind Pc) : vx_Back l R p e below s args y 3 8 (PreOf R mc ms Pc) (PostOf Qc mc ms free) (vx_Post XC mc ms free) := by
  obtain ⟨hrc, hrs, hfr, hlo, hws, hcw, -, hini, -⟩ := cb
  exact vx_back (bytes := bytes) (maxL := maxL) (ret := ret) hM hbl hrc hrs hfr hlo hws hcw (fun a' U hW => word_at hW (Or.inl (by first | rfl | simp [Cond.onTables, Cond.keeps, Cond.steady])) hini)
theorem vx_runV (S : CallFix p m c cc nL s args Ts own) (hM : vx_Met l y ws rm Pc Qc XC mc ms free) (cw : CallW R s args own C index y bytes maxL ret ws rm mc ms n) (hp : PreV s H C b Pc As)
    (hg : g.method = m) (hn : As.length = n) (hsize : g.locals.size = nL) (hstack : g.stack = As.reverse ++ .ref b :: rest) (hW : 2 * g.monitorRoom + (rest.map fun v => v.category).sum ≤ 8) (hdg : decode cc g.pc = .ok (.invokevirtual index, 3)) (hf : cells + mc ≤ R.cells ∧ slots + ms ≤ R.slots) :
    vx_Run p l e R s m args below meth c H locs cells slots mc ms g rest (Qc (Value.ref b :: As).toArray) XC free := by
  have hK : vx_Back l R p e below s args y 3 8 (PreOf R mc ms Pc) (PostOf Qc mc ms free) (vx_Post XC mc ms free) := vx_callBack cw.1 hM hp.1
  obtain ⟨⟨-, -, -, -, -, -, hcode, -, hy, hlen, hl⟩, hin, hse⟩ := cw
  obtain ⟨hx, hb, hml, ho, -⟩ := S
  obtain ⟨-, ⟨cellB, hcB, hoB, hclB⟩, hPc⟩ := hp
  intro T hT X
  rcases vx_callV X hx (C := C) (bytes := bytes) (maxL := maxL) (ret := ret) ho hl hin hse hcode hy hK (by rw [hT]; exact hcB) hoB hclB hg (hsize.trans hml.symm) (argsL := As) (rest := rest) (fun sig h => hn.trans (hlen sig h)) hstack hW (by rw [hb]; exact hdg)
    (fun vm₁ hW₁ => ⟨hf.1, hf.2, hPc (T.setVm vm₁) hT hW₁⟩) with ⟨v, vm₁, ⟨U', l2, c2, s2⟩, hW₁, X', ⟨g', mk, t, L, e1, e2, hq, h1, hL, h2, h3⟩, st⟩ | ⟨q, vm₁, ⟨U', l2, c2, s2⟩, hW₁, X', ⟨g', mk, t, L, E, ce, e1, e2, hq, hce, hcv, hcl, h1, hL, h2, h3⟩, st⟩
  · dsimp only [Pt.U, Pt.locs, Pt.cells, Pt.slots] at X' e1 e2 h1 h2 h3 st
    subst h1; subst h2; subst h3
    exact Or.inl ⟨v, (T.setVm vm₁).calling g' mk (Value.ref b :: As).toArray, t, U', L, hT, X', hL, e1, e2, hq, st⟩
  · dsimp only [Pt.U, Pt.locs, Pt.cells, Pt.slots] at X' e1 e2 h1 h2 h3 st hcl
    subst h1; subst h2; subst h3
    exact Or.inr ⟨q, (T.setVm vm₁).calling g' mk (Value.ref b :: As).toArray, t, U', L, E, ce, hT, X', hL, e1, e2, hq, hce, hcv, vx_cls hW₁ hcl, st⟩
theorem vx_runS (S : CallFix p m c cc nL s args Ts own) (hM : vx_Met l y ws rm Pc Qc XC mc ms free) (cw : CallB R s args own index y bytes maxL ret ws rm mc ms n ∧ (Cond.static y).before args s = true) (hp : PreS s H Pc As)
    (hg : g.method = m) (hn : As.length = n) (hsize : g.locals.size = nL) (hstack : g.stack = As.reverse ++ rest) (hW : 2 * g.monitorRoom + (rest.map fun v => v.category).sum ≤ 8) (hdg : decode cc g.pc = .ok (.invokestatic index, 3)) (hf : cells + mc ≤ R.cells ∧ slots + ms ≤ R.slots) :
    vx_Run p l e R s m args below meth c H locs cells slots mc ms g rest (Qc As.toArray) XC free := by
  have hK : vx_Back l R p e below s args y 3 8 (PreOf R mc ms Pc) (PostOf Qc mc ms free) (vx_Post XC mc ms free) := vx_callBack cw.1 hM hp.1
  obtain ⟨⟨-, -, -, -, -, -, hcode, hini, hy, hlen, hl⟩, hstt⟩ := cw
  obtain ⟨hx, hb, hml, ho, -⟩ := S
  intro T hT X
  rcases vx_callS X hx (bytes := bytes) (maxL := maxL) (ret := ret) ho hl hstt hini hcode hy hK hg (hsize.trans hml.symm) (argsL := As) (rest := rest) (fun sig h => hn.trans (hlen sig h)) hstack hW (by rw [hb]; exact hdg)
    (fun vm₁ hW₁ => ⟨hf.1, hf.2, hp.2 (T.setVm vm₁) hT hW₁⟩) with ⟨v, vm₁, ⟨U', l2, c2, s2⟩, hW₁, X', ⟨g', mk, t, L, e1, e2, hq, h1, hL, h2, h3⟩, st⟩ | ⟨q, vm₁, ⟨U', l2, c2, s2⟩, hW₁, X', ⟨g', mk, t, L, E, ce, e1, e2, hq, hce, hcv, hcl, h1, hL, h2, h3⟩, st⟩
  · dsimp only [Pt.U, Pt.locs, Pt.cells, Pt.slots] at X' e1 e2 h1 h2 h3 st
    subst h1; subst h2; subst h3
    exact Or.inl ⟨v, (T.setVm vm₁).calling g' mk As.toArray, t, U', L, hT, X', hL, e1, e2, hq, st⟩
  · dsimp only [Pt.U, Pt.locs, Pt.cells, Pt.slots] at X' e1 e2 h1 h2 h3 st hcl
    subst h1; subst h2; subst h3
    exact Or.inr ⟨q, (T.setVm vm₁).calling g' mk As.toArray, t, U', L, E, ce, hT, X', hL, e1, e2, hq, hce, hcv, vx_cls hW₁ hcl, st⟩
end Runs
section Rows
variable {p : Program} {l : Launch} {e : Env} {R : Room} {s : State} {m : MethodId} {args : Array Value} {below : List Frame} {meth : Method} {c : Code} {H : Heap} {locs : List Loc} {cells slots : Nat} {Q : State → Prop}
variable {mc ms : Nat} {free : Addr → Prop} {A0 A1 : Nat → Prop} {H0 : Heap} {a : Array Value} {pc : Nat} {ls : Array Slot} {st0 rest : List Value}
theorem vx_keep {st₀ t T' : State} {L : List Loc} (h0 : st₀.heap = H) (e1 : T'.heap = t.heap) (hS : va_S A0 H0 H locs) (hA : ∀ q, q < H.size → A1 q → A0 q) (hf : ∀ q, free q → A0 q) (hL : ∀ q ∈ L, free q.base) (hF : va_F A1 st₀ t) :
    H.size ≤ T'.heap.size ∧ (∀ q : Nat, q < H.size → ¬ A1 q → T'.heap[q]? = H[q]?) ∧ va_S A0 H0 T'.heap (locs ++ L) := by
  obtain ⟨hz, hk⟩ := hF
  rw [h0] at hz hk
  exact ⟨by rw [e1]; exact hz, fun q h1 h2 => by rw [e1]; exact hk q h1 h2,
    ⟨Nat.le_trans hS.1 (by rw [e1]; exact hz), fun q h1 h2 => by rw [e1, hk q (Nat.lt_of_lt_of_le h1 hS.1) (fun z => h2 (hA q (Nat.lt_of_lt_of_le h1 hS.1) z))]; exact hS.2.1 q h1 h2, fun q hq => by
      rcases List.mem_append.mp hq with h | h
      · exact hS.2.2 q h
      · exact hf _ (hL q h)⟩⟩
theorem vx_calli {S SX : Type} {post : Int32 → S → Prop} {px : SX → Prop} {B : S → State → Prop} {BX : String → SX → State → Prop} {AX : Nat → Prop} (hr : vx_Run p l e R s m args below meth c H locs cells slots mc ms (F0 m pc ls st0) rest (va_Qi post B A1 a) (vx_X px BX AX) free) (hS : va_S A0 H0 H locs) (hA : ∀ q, q < H.size → A1 q → A0 q) (hf : ∀ q, free q → A0 q) (hAX : ∀ q, q < H.size → AX q → A0 q)
    (kx : ∀ (E : String) (ce : Cell) (q9 : Addr) (u : SX) (t : State) (H1 : Heap) (locs1 : List Loc), t.heap = H1 → s.vm.Alike t.vm → px u → BX E u t → H.size ≤ H1.size → (∀ q : Nat, q < H.size → ¬ AX q → H1[q]? = H[q]?) → va_S A0 H0 H1 locs1 → H1[q9]? = some ce → ce.vm = .none → s.vm.findClass E = some ce.cls → vx_W p l e R s m args below meth c H1 locs1 (cells + mc) (slots + ms) Q (F0 m pc ls rest) q9)
    (kk : ∀ (r : Int32) (u : S) (t : State) (H1 : Heap) (locs1 : List Loc), t.heap = H1 → s.vm.Alike t.vm → post r u → B u t → H.size ≤ H1.size → (∀ q : Nat, q < H.size → ¬ A1 q → H1[q]? = H[q]?) → va_S A0 H0 H1 locs1 → W p l e R s m args below meth c H1 locs1 (cells + mc) (slots + ms) Q (F0 m (pc + 3) ls (.int r :: rest))) : W p l e R s m args below meth c H locs cells slots Q (F0 m pc ls st0) := by
  intro T hT X
  rcases hr T hT X with ⟨v, st₀, t, T', L, h0, X', hL, e1, e2, ⟨⟨r, u, hv, hp, hb⟩, hF⟩, st⟩ | ⟨q, st₀, t, T', L, E, ce, h0, X', hL, e1, e2, ⟨u, hp, hb, hF⟩, hce, hcv, hcl, st⟩
  · cases hv
    obtain ⟨k1, k2, k3⟩ := vx_keep h0 e1 hS hA hf hL hF
    obtain ⟨t2, a1, b1⟩ := kk r u t T'.heap (locs ++ L) e1.symm (by rw [← e2]; exact X'.warmed.alike) hp hb k1 k2 k3 T' rfl X'
    exact ⟨t2, st t2 a1, b1⟩
  · obtain ⟨k1, k2, k3⟩ := vx_keep h0 e1 hS hAX hf hL hF
    obtain ⟨t2, a1, b1⟩ := kx E ce q u t T'.heap (locs ++ L) e1.symm (by rw [← e2]; exact X'.warmed.alike) hp hb k1 k2 k3 (by rw [e1]; exact hce) hcv hcl T' rfl X'
    exact ⟨t2, st.trans a1, b1⟩
theorem vx_calll {S SX : Type} {post : Int64 → S → Prop} {px : SX → Prop} {B : S → State → Prop} {BX : String → SX → State → Prop} {AX : Nat → Prop} (hr : vx_Run p l e R s m args below meth c H locs cells slots mc ms (F0 m pc ls st0) rest (va_Ql post B A1 a) (vx_X px BX AX) free) (hS : va_S A0 H0 H locs) (hA : ∀ q, q < H.size → A1 q → A0 q) (hf : ∀ q, free q → A0 q) (hAX : ∀ q, q < H.size → AX q → A0 q)
    (kx : ∀ (E : String) (ce : Cell) (q9 : Addr) (u : SX) (t : State) (H1 : Heap) (locs1 : List Loc), t.heap = H1 → s.vm.Alike t.vm → px u → BX E u t → H.size ≤ H1.size → (∀ q : Nat, q < H.size → ¬ AX q → H1[q]? = H[q]?) → va_S A0 H0 H1 locs1 → H1[q9]? = some ce → ce.vm = .none → s.vm.findClass E = some ce.cls → vx_W p l e R s m args below meth c H1 locs1 (cells + mc) (slots + ms) Q (F0 m pc ls rest) q9)
    (kk : ∀ (r : Int64) (u : S) (t : State) (H1 : Heap) (locs1 : List Loc), t.heap = H1 → s.vm.Alike t.vm → post r u → B u t → H.size ≤ H1.size → (∀ q : Nat, q < H.size → ¬ A1 q → H1[q]? = H[q]?) → va_S A0 H0 H1 locs1 → W p l e R s m args below meth c H1 locs1 (cells + mc) (slots + ms) Q (F0 m (pc + 3) ls (.long r :: rest))) : W p l e R s m args below meth c H locs cells slots Q (F0 m pc ls st0) := by
  intro T hT X
  rcases hr T hT X with ⟨v, st₀, t, T', L, h0, X', hL, e1, e2, ⟨⟨r, u, hv, hp, hb⟩, hF⟩, st⟩ | ⟨q, st₀, t, T', L, E, ce, h0, X', hL, e1, e2, ⟨u, hp, hb, hF⟩, hce, hcv, hcl, st⟩
  · cases hv
    obtain ⟨k1, k2, k3⟩ := vx_keep h0 e1 hS hA hf hL hF
    obtain ⟨t2, a1, b1⟩ := kk r u t T'.heap (locs ++ L) e1.symm (by rw [← e2]; exact X'.warmed.alike) hp hb k1 k2 k3 T' rfl X'
    exact ⟨t2, st t2 a1, b1⟩
  · obtain ⟨k1, k2, k3⟩ := vx_keep h0 e1 hS hAX hf hL hF
    obtain ⟨t2, a1, b1⟩ := kx E ce q u t T'.heap (locs ++ L) e1.symm (by rw [← e2]; exact X'.warmed.alike) hp hb k1 k2 k3 (by rw [e1]; exact hce) hcv hcl T' rfl X'
    exact ⟨t2, st.trans a1, b1⟩
theorem vx_callf {S SX : Type} {post : UInt32 → S → Prop} {px : SX → Prop} {B : S → State → Prop} {BX : String → SX → State → Prop} {AX : Nat → Prop} (hr : vx_Run p l e R s m args below meth c H locs cells slots mc ms (F0 m pc ls st0) rest (va_Qf post B A1 a) (vx_X px BX AX) free) (hS : va_S A0 H0 H locs) (hA : ∀ q, q < H.size → A1 q → A0 q) (hf : ∀ q, free q → A0 q) (hAX : ∀ q, q < H.size → AX q → A0 q)
    (kx : ∀ (E : String) (ce : Cell) (q9 : Addr) (u : SX) (t : State) (H1 : Heap) (locs1 : List Loc), t.heap = H1 → s.vm.Alike t.vm → px u → BX E u t → H.size ≤ H1.size → (∀ q : Nat, q < H.size → ¬ AX q → H1[q]? = H[q]?) → va_S A0 H0 H1 locs1 → H1[q9]? = some ce → ce.vm = .none → s.vm.findClass E = some ce.cls → vx_W p l e R s m args below meth c H1 locs1 (cells + mc) (slots + ms) Q (F0 m pc ls rest) q9)
    (kk : ∀ (r : UInt32) (u : S) (t : State) (H1 : Heap) (locs1 : List Loc), t.heap = H1 → s.vm.Alike t.vm → post r u → B u t → H.size ≤ H1.size → (∀ q : Nat, q < H.size → ¬ A1 q → H1[q]? = H[q]?) → va_S A0 H0 H1 locs1 → W p l e R s m args below meth c H1 locs1 (cells + mc) (slots + ms) Q (F0 m (pc + 3) ls (.float r :: rest))) : W p l e R s m args below meth c H locs cells slots Q (F0 m pc ls st0) := by
  intro T hT X
  rcases hr T hT X with ⟨v, st₀, t, T', L, h0, X', hL, e1, e2, ⟨⟨r, u, hv, hp, hb⟩, hF⟩, st⟩ | ⟨q, st₀, t, T', L, E, ce, h0, X', hL, e1, e2, ⟨u, hp, hb, hF⟩, hce, hcv, hcl, st⟩
  · cases hv
    obtain ⟨k1, k2, k3⟩ := vx_keep h0 e1 hS hA hf hL hF
    obtain ⟨t2, a1, b1⟩ := kk r u t T'.heap (locs ++ L) e1.symm (by rw [← e2]; exact X'.warmed.alike) hp hb k1 k2 k3 T' rfl X'
    exact ⟨t2, st t2 a1, b1⟩
  · obtain ⟨k1, k2, k3⟩ := vx_keep h0 e1 hS hAX hf hL hF
    obtain ⟨t2, a1, b1⟩ := kx E ce q u t T'.heap (locs ++ L) e1.symm (by rw [← e2]; exact X'.warmed.alike) hp hb k1 k2 k3 (by rw [e1]; exact hce) hcv hcl T' rfl X'
    exact ⟨t2, st.trans a1, b1⟩
theorem vx_calld {S SX : Type} {post : UInt64 → S → Prop} {px : SX → Prop} {B : S → State → Prop} {BX : String → SX → State → Prop} {AX : Nat → Prop} (hr : vx_Run p l e R s m args below meth c H locs cells slots mc ms (F0 m pc ls st0) rest (va_Qd post B A1 a) (vx_X px BX AX) free) (hS : va_S A0 H0 H locs) (hA : ∀ q, q < H.size → A1 q → A0 q) (hf : ∀ q, free q → A0 q) (hAX : ∀ q, q < H.size → AX q → A0 q)
    (kx : ∀ (E : String) (ce : Cell) (q9 : Addr) (u : SX) (t : State) (H1 : Heap) (locs1 : List Loc), t.heap = H1 → s.vm.Alike t.vm → px u → BX E u t → H.size ≤ H1.size → (∀ q : Nat, q < H.size → ¬ AX q → H1[q]? = H[q]?) → va_S A0 H0 H1 locs1 → H1[q9]? = some ce → ce.vm = .none → s.vm.findClass E = some ce.cls → vx_W p l e R s m args below meth c H1 locs1 (cells + mc) (slots + ms) Q (F0 m pc ls rest) q9)
    (kk : ∀ (r : UInt64) (u : S) (t : State) (H1 : Heap) (locs1 : List Loc), t.heap = H1 → s.vm.Alike t.vm → post r u → B u t → H.size ≤ H1.size → (∀ q : Nat, q < H.size → ¬ A1 q → H1[q]? = H[q]?) → va_S A0 H0 H1 locs1 → W p l e R s m args below meth c H1 locs1 (cells + mc) (slots + ms) Q (F0 m (pc + 3) ls (.double r :: rest))) : W p l e R s m args below meth c H locs cells slots Q (F0 m pc ls st0) := by
  intro T hT X
  rcases hr T hT X with ⟨v, st₀, t, T', L, h0, X', hL, e1, e2, ⟨⟨r, u, hv, hp, hb⟩, hF⟩, st⟩ | ⟨q, st₀, t, T', L, E, ce, h0, X', hL, e1, e2, ⟨u, hp, hb, hF⟩, hce, hcv, hcl, st⟩
  · cases hv
    obtain ⟨k1, k2, k3⟩ := vx_keep h0 e1 hS hA hf hL hF
    obtain ⟨t2, a1, b1⟩ := kk r u t T'.heap (locs ++ L) e1.symm (by rw [← e2]; exact X'.warmed.alike) hp hb k1 k2 k3 T' rfl X'
    exact ⟨t2, st t2 a1, b1⟩
  · obtain ⟨k1, k2, k3⟩ := vx_keep h0 e1 hS hAX hf hL hF
    obtain ⟨t2, a1, b1⟩ := kx E ce q u t T'.heap (locs ++ L) e1.symm (by rw [← e2]; exact X'.warmed.alike) hp hb k1 k2 k3 (by rw [e1]; exact hce) hcv hcl T' rfl X'
    exact ⟨t2, st.trans a1, b1⟩
theorem vx_callv {S SX : Type} {post : S → Prop} {px : SX → Prop} {B : S → State → Prop} {BX : String → SX → State → Prop} {AX : Nat → Prop} (hr : vx_Run p l e R s m args below meth c H locs cells slots mc ms (F0 m pc ls st0) rest (va_Qv post B A1 a) (vx_X px BX AX) free) (hS : va_S A0 H0 H locs) (hA : ∀ q, q < H.size → A1 q → A0 q) (hf : ∀ q, free q → A0 q) (hAX : ∀ q, q < H.size → AX q → A0 q)
    (kx : ∀ (E : String) (ce : Cell) (q9 : Addr) (u : SX) (t : State) (H1 : Heap) (locs1 : List Loc), t.heap = H1 → s.vm.Alike t.vm → px u → BX E u t → H.size ≤ H1.size → (∀ q : Nat, q < H.size → ¬ AX q → H1[q]? = H[q]?) → va_S A0 H0 H1 locs1 → H1[q9]? = some ce → ce.vm = .none → s.vm.findClass E = some ce.cls → vx_W p l e R s m args below meth c H1 locs1 (cells + mc) (slots + ms) Q (F0 m pc ls rest) q9)
    (kk : ∀ (u : S) (t : State) (H1 : Heap) (locs1 : List Loc), t.heap = H1 → s.vm.Alike t.vm → post u → B u t → H.size ≤ H1.size → (∀ q : Nat, q < H.size → ¬ A1 q → H1[q]? = H[q]?) → va_S A0 H0 H1 locs1 → W p l e R s m args below meth c H1 locs1 (cells + mc) (slots + ms) Q (F0 m (pc + 3) ls (rest))) : W p l e R s m args below meth c H locs cells slots Q (F0 m pc ls st0) := by
  intro T hT X
  rcases hr T hT X with ⟨v, st₀, t, T', L, h0, X', hL, e1, e2, ⟨⟨u, hv, hp, hb⟩, hF⟩, st⟩ | ⟨q, st₀, t, T', L, E, ce, h0, X', hL, e1, e2, ⟨u, hp, hb, hF⟩, hce, hcv, hcl, st⟩
  · cases hv
    obtain ⟨k1, k2, k3⟩ := vx_keep h0 e1 hS hA hf hL hF
    obtain ⟨t2, a1, b1⟩ := kk u t T'.heap (locs ++ L) e1.symm (by rw [← e2]; exact X'.warmed.alike) hp hb k1 k2 k3 T' rfl X'
    exact ⟨t2, st t2 a1, b1⟩
  · obtain ⟨k1, k2, k3⟩ := vx_keep h0 e1 hS hAX hf hL hF
    obtain ⟨t2, a1, b1⟩ := kx E ce q u t T'.heap (locs ++ L) e1.symm (by rw [← e2]; exact X'.warmed.alike) hp hb k1 k2 k3 (by rw [e1]; exact hce) hcv hcl T' rfl X'
    exact ⟨t2, st.trans a1, b1⟩
/-- caught by the row x of this method's table; the rows ahead don't take it -/
theorem vx_catch {own name : String} {E : String} {ce : Cell} {q : Addr} (hown : s.vm.findClass own = some m.cls) (pre : List ExceptionTableEntry) (x : ExceptionTableEntry) (suf : List ExceptionTableEntry) (hsplit : c.exceptionTable.toList = pre ++ x :: suf)
    (hpass : ∀ z ∈ pre, covers z pc = false ∨ (z.catchType ≠ 0 ∧ ∃ nm : String, (Cond.classLink own z.catchType nm).before args s = true ∧ va_Nc E nm s)) (hx : covers x pc = true) (h0 : x.catchType ≠ 0)
    (hlink : (Cond.classLink own x.catchType name).before args s = true) (hcast : (Cond.castable E name).before args s = true) (hcell : H[q]? = some ce) (hv : ce.vm = .none) (hcl : s.vm.findClass E = some ce.cls)
    (kk : W p l e R s m args below meth c H locs cells slots Q (F0 m x.handlerPc ls [.ref q])) : vx_W p l e R s m args below meth c H locs cells slots Q (F0 m pc ls rest) q := by
  intro T hT X
  have hpl : e.platform.magicAccessors = ({} : Platform).magicAccessors := by rw [X.admits.platform]
  obtain ⟨c3, c4, hc3, hc4, hasg⟩ := Cond.castable_spec hcast
  cases Option.some.inj (hc3.symm.trans hcl)
  obtain ⟨c5, hc5, hcl5⟩ := Cond.classLink_spec hown hlink e.platform hpl
  cases Option.some.inj (hc4.symm.trans hc5)
  obtain ⟨vm', X', st⟩ := X.thenCaughtThrough q (g := F0 m pc ls rest) rfl (Steps.refl _) (by rw [hT]; exact hcell) (by rw [hv]; rfl) (by obtain ⟨k9, h9, -⟩ := Vm.findClass_spec hcl; exact ⟨k9, h9⟩) pre x suf hsplit
    (fun z hz => by
      rcases hpass z hz with h | ⟨hz0, nm, hl1, hn1⟩
      · exact Or.inl h
      · obtain ⟨c6, hc6, hcl6⟩ := Cond.classLink_spec hown hl1 e.platform hpl
        obtain ⟨a8, b8, h1, h2, h3⟩ := hn1
        cases Option.some.inj (h1.symm.trans hcl)
        cases Option.some.inj (h2.symm.trans hc6)
        exact Or.inr ⟨hz0, _, hcl6, h3⟩) hx (Or.inr ⟨h0, c4, hcl5, hasg⟩)
  obtain ⟨t, a1, b1⟩ := kk (T.setVm vm') hT X'
  exact ⟨t, st.trans a1, b1⟩
end Rows
section Ends
variable {p : Program} {l : Launch} {e : Env} {R : Room} {s : State} {m : MethodId} {args : Array Value} {below : List Frame} {meth : Method} {c : Code} {H : Heap} {locs : List Loc} {cells slots : Nat} {Q : State → Prop}
variable {mc ms : Nat} {free : Addr → Prop} {A0 A1 : Nat → Prop} {H0 : Heap} {a : Array Value} {ls : Array Slot} {st0 rest : List Value}
variable {Qc : Array Value → State → Outcome → State → Prop} {XC : String → State → State → Prop}
/-- what a body that may throw owes at its end -/
def vx_MQ (below : List Frame) (Qc : Array Value → State → Outcome → State → Prop) (XC : String → State → State → Prop) (a : Array Value) (s : State) (mc ms : Nat) (free : Addr → Prop) : State → Prop := fun t =>
  ∃ o, t.status = .running ∧ Ended t below o ∧ vx_Q Qc XC mc ms free a s o t
theorem vx_ret {g : JFrame} {mc ms : Nat} (k : W p l e R s m args below meth c H locs cells slots (MQ below Qc args s mc ms free) g) : W p l e R s m args below meth c H locs cells slots (vx_MQ below Qc XC args s mc ms free) g := by
  intro T hT X
  obtain ⟨t, a1, o, b1, b2, b3, b4⟩ := k T hT X
  exact ⟨t, a1, o, b1, b2, Or.inl ⟨b3, b4⟩⟩
/-- not caught here: it goes on to the caller -/
theorem vx_widen {g : JFrame} {q : Addr} {k n : Nat} (h1 : cells ≤ k) (h2 : slots ≤ n) (kk : vx_W p l e R s m args below meth c H locs k n Q g q) : vx_W p l e R s m args below meth c H locs cells slots Q g q := fun T hT X => kk T hT (stand_widen X h1 h2)
theorem vx_out {pc : Nat} {E : String} {ce : Cell} {q : Addr} {mc ms : Nat} (hout : ∀ x ∈ c.exceptionTable.toList, covers x pc = false) (hlocks : meth.locks = false) (hcell : H[q]? = some ce) (hv : ce.vm = .none) (hcl : s.vm.findClass E = some ce.cls)
    (hx : ∀ t : State, t.heap = H → s.vm.Alike t.vm → XC E s t) (hf : ∀ z ∈ locs, free z.base) (hc : cells ≤ mc) (hs : slots ≤ ms) :
    vx_W p l e R s m args below meth c H locs cells slots (vx_MQ below Qc XC args s mc ms free) (F0 m pc ls rest) q := by
  intro T hT X
  obtain ⟨st1, hrun, hend, hW, hsm⟩ := X.leaveThrown q (g := F0 m pc ls rest) rfl rfl rfl hout hlocks
  have hcell9 : (T.setFrames (.throwing q :: below)).heap[q]? = some ce := by
    show T.heap[q]? = some ce
    rw [hT]; exact hcell
  exact ⟨_, st1, .threw q, hrun, hend, Or.inr ⟨q, rfl, E, ce, locs, hx _ hT hW.alike, hcell9, hv, hcl, hW, hsm.mono hc hs, hf⟩⟩
theorem vx_frame {U : State} {k n : Nat} (h : s.sameButNew ({ U with vm := s.vm } : State) locs k n) : s.heap.size ≤ U.heap.size ∧ ∀ q : Nat, q < s.heap.size → (∀ z ∈ locs, z.base ≠ q) → U.heap[q]? = s.heap[q]? := by
  obtain ⟨-, h2, -, -, -, h6⟩ := h
  refine ⟨h2, fun q hq hz => ?_⟩
  obtain ⟨c9, e1, e2, e3, e4⟩ := h6 q _ (Array.getElem?_eq_getElem hq)
  have hs : c9.slots = (s.heap[q]).slots := Array.ext_getElem? fun i => e4 i fun hm => hz _ hm rfl
  have h9 : c9 = s.heap[q] := by
    rw [hs] at e2
    exact e2
  have e5 : U.heap[q]? = some c9 := e1
  rw [e5, h9, Array.getElem?_eq_getElem hq]
/-- the words of a throw but the four that speak of the heap -/
def vx_no (w : Cond) : Bool := decide (w ≠ .isRef (.static Bundle.tN "UNASSIGNED_STACK" Bundle.steD)) && decide (w ≠ .isRef (.static Bundle.tN "SUPPRESSED_SENTINEL" Bundle.listD)) && decide (w ≠ .laysStatic Bundle.tN "UNASSIGNED_STACK" Bundle.steD) && decide (w ≠ .laysStatic Bundle.tN "SUPPRESSED_SENTINEL" Bundle.listD)
def vx_at0 (own : String) (ic : Nat) (X : String) (names : List String) : List Cond := (Bundle.ownAtoms0 own ic X names).filter vx_no
def vx_atS (own : String) (ic : Nat) (X : String) (names : List String) : List Cond := (Bundle.ownAtoms own ic X names).filter vx_no
/-- a word that the tables alone decide, or a good one -/
def vx_ot (w : Cond) : Bool := w.onTables || goodWord w
theorem vx_ot_at {args a' : Array Value} {s U : State} {w : Cond} (hW : s.WarmedH U.vm) (hvm : s.vm = U.vm) (hg : vx_ot w = true) (h : w.before args s = true) : w.before a' U = true := by
  simp only [vx_ot, Bool.or_eq_true] at hg
  rcases hg with hg | hg
  · exact va_tabs hg hvm h
  · exact word_at hW (good_of_word hg) h
/-- a list's words: the good ones out of the method's own list, the others by premises of their own -/
theorem vx_hat {args : Array Value} {s : State} {L B : List Cond} (h1 : ∀ w ∈ L.filter goodWord, w.before args s = true) (h2 : ∀ w ∈ L.filter (fun w => !goodWord w), w ∈ B) (h3 : ∀ w ∈ B, w.before args s = true) : ∀ w ∈ L, w.before args s = true := by
  intro w hw
  by_cases g : goodWord w = true
  · exact h1 w (List.mem_filter.mpr ⟨hw, g⟩)
  · refine h3 w (h2 w (List.mem_filter.mpr ⟨hw, ?_⟩))
    show (!goodWord w) = true
    cases hgw : goodWord w
    · rfl
    · exact absurd hgw g
theorem vx_c {args : Array Value} {s : State} {w : Cond} {B : List Cond} (h : w.before args s = true) (t : ∀ w ∈ B, w.before args s = true) : ∀ w' ∈ w :: B, w'.before args s = true := fun w' h' => (List.mem_cons.mp h').elim (fun e => by rw [e]; exact h) (t w')
theorem vx_n {args : Array Value} {s : State} : ∀ w ∈ ([] : List Cond), w.before args s = true := fun _ h => nomatch h
theorem vx_own {args : Array Value} {s : State} {L : List Cond} (h1 : ∀ w ∈ L.filter vx_no, w.before args s = true)
    (hU : (Cond.isRef (.static Bundle.tN "UNASSIGNED_STACK" Bundle.steD)).before args s = true) (hN : (Cond.isRef (.static Bundle.tN "SUPPRESSED_SENTINEL" Bundle.listD)).before args s = true)
    (lU : (Cond.laysStatic Bundle.tN "UNASSIGNED_STACK" Bundle.steD).before args s = true) (lN : (Cond.laysStatic Bundle.tN "SUPPRESSED_SENTINEL" Bundle.listD).before args s = true) : ∀ w ∈ L, w.before args s = true := by
  intro w hw
  by_cases e1 : w = .isRef (.static Bundle.tN "UNASSIGNED_STACK" Bundle.steD)
  · rw [e1]; exact hU
  · by_cases e2 : w = .isRef (.static Bundle.tN "SUPPRESSED_SENTINEL" Bundle.listD)
    · rw [e2]; exact hN
    · by_cases e3 : w = .laysStatic Bundle.tN "UNASSIGNED_STACK" Bundle.steD
      · rw [e3]; exact lU
      · by_cases e4 : w = .laysStatic Bundle.tN "SUPPRESSED_SENTINEL" Bundle.listD
        · rw [e4]; exact lN
        · exact h1 w (List.mem_filter.mpr ⟨hw, by unfold vx_no; rw [decide_eq_true e1, decide_eq_true e2, decide_eq_true e3, decide_eq_true e4]; rfl⟩)
/-- where a static field lies, its class's statics cell in H -/
def vx_L (C n d : String) (A : Nat → Prop) (U : State) (H : Heap) : Prop := ∃ (c : ClassId) (k : Class) (i : Nat) (f : Field) (a : Nat) (cell : Cell), U.vm.findClass C = some c ∧ U.fieldFound? C n d = some (c, k, i, f) ∧ f.isStatic = true ∧ k.statics = some a ∧ H[a]? = some cell ∧ cell.vm.isStatics = true ∧ cell.cls = c ∧ f.slot < cell.slots.size ∧ k.staticTypes[f.slot]? = some f.type ∧ ¬ A a
theorem vx_L.moved {C n d : String} {A : Nat → Prop} {u U : State} {H : Heap} (hvm : u.vm.Alike U.vm) (h : vx_L C n d A u H) : vx_L C n d A U H := by
  obtain ⟨c, k, i, f, a, cell, h1, h2, h3, h4, h5, h6, h7, h8, h9, h10⟩ := h
  obtain ⟨k', hi', he⟩ := State.fieldFound?_setVm hvm h2
  exact ⟨c, k', i, f, a, cell, by rw [hvm.findClass]; exact h1, hi', h3, by rw [he]; exact h4, h5, h6, h7, h8, by rw [he]; exact h9, h10⟩
theorem vx_L.kept {C n d : String} {A : Nat → Prop} {U : State} {H H1 : Heap} (h : vx_L C n d A U H) (hq : ∀ a : Nat, a < H.size → ¬ A a → H1[a]? = H[a]?) : vx_L C n d A U H1 := by
  obtain ⟨c, k, i, f, a, cell, h1, h2, h3, h4, h5, h6, h7, h8, h9, h10⟩ := h
  exact ⟨c, k, i, f, a, cell, h1, h2, h3, h4, by rw [hq a (Array.getElem?_eq_some_iff.mp h5).1 h10]; exact h5, h6, h7, h8, h9, h10⟩
theorem vx_L.narrow {C n d : String} {A B : Nat → Prop} {U : State} {H : Heap} (h : vx_L C n d A U H) (hAB : ∀ q, B q → A q) : vx_L C n d B U H := by
  obtain ⟨c, k, i, f, a, cell, h1, h2, h3, h4, h5, h6, h7, h8, h9, h10⟩ := h
  exact ⟨c, k, i, f, a, cell, h1, h2, h3, h4, h5, h6, h7, h8, h9, fun z => h10 (hAB _ z)⟩
theorem vx_L.word {C n d : String} {A : Nat → Prop} {s : State} {args : Array Value} (h : vx_L C n d A s s.heap) : (Cond.laysStatic C n d).before args s = true := by
  obtain ⟨c, k, i, f, a, cell, h1, h2, h3, h4, h5, h6, h7, h8, h9, -⟩ := h
  show (Cond.laysStatic C n d).holds args s none s [] = true
  exact Cond.laysStatic_of h1 h2 h3 h4 h5 h6 h7 h8 h9
/-- .. and what it holds: null or some reference -/
def vx_Zq (C n d : String) (A : Nat → Prop) (U : State) (H : Heap) : Prop := va_Zq C n d A U H ∧ vx_L C n d A U H
theorem vx_Zq.moved {C n d : String} {A : Nat → Prop} {u U : State} {H : Heap} (hvm : u.vm.Alike U.vm) (h : vx_Zq C n d A u H) : vx_Zq C n d A U H := ⟨va_Zq.moved hvm h.1, vx_L.moved hvm h.2⟩
theorem vx_Zq.kept {C n d : String} {A : Nat → Prop} {U : State} {H H1 : Heap} (h : vx_Zq C n d A U H) (hq : ∀ a : Nat, a < H.size → ¬ A a → H1[a]? = H[a]?) : vx_Zq C n d A U H1 := ⟨va_Zq.kept h.1 hq, vx_L.kept h.2 hq⟩
theorem vx_Zq.narrow {C n d : String} {A B : Nat → Prop} {U : State} {H : Heap} (h : vx_Zq C n d A U H) (hAB : ∀ q, B q → A q) : vx_Zq C n d B U H := ⟨va_Zq.narrow h.1 hAB, vx_L.narrow h.2 hAB⟩
theorem vx_Zqof {args : Array Value} {s : State} {C n d : String} {A : Nat → Prop} (hl : (Cond.laysStatic C n d).before args s = true) (hini : (Cond.initialized C).before args s = true) (h : (Cond.isRef (.static C n d)).before args s = true) (hA : ∀ a : Nat, a < s.heap.size → ¬ A a) : vx_Zq C n d A s s.heap := by
  refine ⟨va_Zqof hl hini h hA, ?_⟩
  obtain ⟨c, k, i, f, a, cell, h1, h2, h3, h4, h5, h6, h7, h8, h9⟩ := Cond.laysStatic_spec hl
  exact ⟨c, k, i, f, a, cell, h1, h2, h3, h4, h5, h6, h7, h8, h9, hA a (Array.getElem?_eq_some_iff.mp h5).1⟩
theorem vx_isRef {C n d : String} {v : Value} {A : Nat → Prop} {s : State} {args : Array Value} (h : va_Z C n d v A s s.heap) (hv : v.isRef = true) : (Cond.isRef (.static C n d)).before args s = true := by
  obtain ⟨cf, kf, fi, f, a, cell, h1, h2, h3, h4, h5, h6, h7, -⟩ := h
  have he : (Term.static C n d).eval args s none [] s = some v := by
    simp [Term.eval, State.fieldNamed?, h1, h2, h4, h5, h6, h7]
  simp only [Cond.before, Cond.holds, Cond.value, he]
  cases v <;> simp_all [Value.isRef]
theorem vx_isRefq {C n d : String} {A : Nat → Prop} {s : State} {args : Array Value} (h : va_Zq C n d A s s.heap) : (Cond.isRef (.static C n d)).before args s = true := by
  rcases h with h | ⟨t, h⟩
  · exact vx_isRef h rfl
  · exact vx_isRef h rfl
/-- the same frame, seen from here: as if the method were called anew in this heap -/
theorem vx_rebase {T : State} (X : Stand p l e R s m args below meth c T locs cells slots) {R' : Room} (hf : R'.frames ≤ R.frames) (hl : R'.locals ≤ R.locals) (hc : cells + R'.cells ≤ R.cells) (hs : slots + R'.slots ≤ R.slots) :
    Stand p l e R' ((T.setVm s.vm).setFrames (.invoking m args :: below)) m args below meth c T [] 0 0 := by
  have htop : (T.setVm s.vm).topJava?.isSome := X.here.top
  have hF : ((T.setVm s.vm).setFrames (.invoking m args :: below)).frames = .invoking m args :: below := State.frames_setFrames _ (State.cur_lt_of_top htop)
  obtain ⟨g₀, hg0⟩ := Option.isSome_iff_exists.mp htop
  obtain ⟨r, hr⟩ := State.topJava?_eq_some.mp hg0
  have hl9 : e.platform.stackLimits (T.setVm s.vm).me = e.platform.stackLimits s.me := X.limits
  have hb9 : (T.setVm s.vm).me.stackBytes = s.me.stackBytes := X.bytes
  refine ⟨X.admits, X.cas, X.clock, hF, ?_, X.hears, X.method, X.code, X.here, X.tail, X.warmed, ?_, ?_, ?_⟩
  · have h := X.room
    have hU : ((T.setVm s.vm).setFrames (.invoking m args :: below)).localsInUse = s.localsInUse := by
      rw [State.localsInUse_invoking hF (meth := meth) (c := c) X.method X.code, State.localsInUse_invoking X.frames X.method X.code]
    simp only [State.hasRoom, Bool.and_eq_true, decide_eq_true_eq] at h ⊢
    obtain ⟨⟨⟨⟨h1, h2, h3, h4, h5, h6⟩, h7⟩, h8⟩, h9⟩ := h
    rw [X.frames, List.length_cons] at h2 h3
    have q1 := X.heapSize
    have q2 := X.used
    simp only [hF, hU, List.length_cons, State.stackLimits_setFrames, State.stackBytes_setFrames, hl9, hb9]
    refine ⟨⟨⟨⟨by omega, by omega, by omega, by omega, by omega, h6⟩, ?_⟩, ?_⟩, X.book⟩
    · show T.heap.size + R'.cells ≤ e.platform.maxCells
      omega
    · show T.slotsUsed + R'.slots ≤ e.platform.maxSlots
      omega
  · rw [State.stackLimits_setFrames]; rfl
  · rw [State.stackBytes_setFrames]; rfl
  · refine ⟨?_, Nat.le_refl _, Nat.le_refl _, ?_, ?_, fun a c9 h9 => ⟨c9, h9, rfl, rfl, fun _ _ => rfl⟩⟩
    · obtain ⟨t, ht, -⟩ := State.frames_cons hr
      show T.setVm s.vm = { ((T.setVm s.vm).setFrames (.invoking m args :: below)).setFrames (T.setVm s.vm).frames with heap := T.heap, slotsUsed := T.slotsUsed }
      rw [State.setFrames_setFrames, State.setFrames_self ht]
      rfl
    · show T.slotsUsed = T.slotsUsed + ((T.heap.toList.drop T.heap.size).map (·.slots.size)).sum
      rw [List.drop_eq_nil_of_le (Nat.le_of_eq Array.length_toList)]
      rfl
    · show ((T.heap.toList.drop T.heap.size).map (·.slots.size)).sum ≤ 0
      rw [List.drop_eq_nil_of_le (Nat.le_of_eq Array.length_toList)]
      exact Nat.le_refl _
/-- 'throw new E()': new; dup; invokespecial; athrow -/
theorem vx_throw0 {cc : ByteArray} {pc : Nat} (hexec : p.tables.exec = Jvm.exec) (hb : c.code = cc) (hl : l.stackTraces = false) {own cls : String} {names : List String} {ik ic mc ms : Nat} {A : Nat → Prop}
    (hown : s.vm.findClass own = some m.cls) (hcls : Bundle.fit cls = true) (hnames : ∀ n ∈ names, Bundle.fit n = true)
    (hk : (Cond.classLink own ik cls).before args s = true) (hini : (Cond.initialized cls).before args s = true) (hat : ∀ w ∈ vx_at0 own ic cls names, w.before args s = true)
    (hgood : ∀ w ∈ Cond.classLink own ik cls :: Cond.initialized cls :: vx_at0 own ic cls names, vx_ot w = true)
    (hU : vx_Zq Bundle.tN "UNASSIGNED_STACK" Bundle.steD A s s.heap) (hN : vx_Zq Bundle.tN "SUPPRESSED_SENTINEL" Bundle.listD A s s.heap) (hS : va_S A s.heap H locs) (hsize : ls.size = c.maxLocals)
    (d0 : decode cc pc = .ok (.new ik, 3)) (d3 : decode cc (pc + 3) = .ok (.dup, 1)) (d4 : decode cc (pc + 4) = .ok (.invokespecial ic, 3)) (d7 : decode cc (pc + 7) = .ok (.athrow, 1))
    (hout : ∀ x ∈ c.exceptionTable.toList, covers x (pc + 7) = false)
    (hRframes : names.length + 3 < R.frames) (hRlocals : (rest.map fun v => v.category).sum + (13 * (names.length + 1) + 42) ≤ R.locals) (hRcells : cells + 1 ≤ R.cells) (hRslots : slots + 6 ≤ R.slots) (hlocks : meth.locks = false)
    (hx : ∀ t : State, s.vm.Alike t.vm → H.size ≤ t.heap.size → (∀ q : Nat, q < H.size → t.heap[q]? = H[q]?) → XC cls s t)
    (hf : ∀ z ∈ locs, free z.base) (hc : cells + 1 ≤ mc) (hs : slots + 6 ≤ ms) :
    W p l e R s m args below meth c H locs cells slots (vx_MQ below Qc XC args s mc ms free) (F0 m pc ls rest) := by
  intro T hT X
  have htr : e.platform.stackTraces = false := (show e.platform.stackTraces = l.stackTraces by rw [X.admits.platform]).trans hl
  have Y := vx_rebase X (R' := { frames := R.frames, locals := R.locals, cells := 1, slots := 6 }) (Nat.le_refl _) (Nat.le_refl _) hRcells hRslots
  obtain ⟨s', hA⟩ : ∃ z, z = (T.setVm s.vm).setFrames (.invoking m args :: below) := ⟨_, rfl⟩
  rw [← hA] at Y
  have hvm : s'.vm = s.vm := by rw [hA]; rfl
  have hhp : s'.heap = H := by rw [hA]; exact hT
  have hW0 : s.WarmedH s'.vm := by rw [hvm]; exact State.WarmedH.refl s
  have hat' : ∀ w ∈ vx_at0 own ic cls names, w.before args s' = true := fun w hw => vx_ot_at hW0 hvm.symm (hgood w (List.mem_cons_of_mem _ (List.mem_cons_of_mem _ hw))) (hat w hw)
  have hk' : (Cond.classLink own ik cls).before args s' = true := vx_ot_at hW0 hvm.symm (hgood _ List.mem_cons_self) hk
  have hini' : (Cond.initialized cls).before args s' = true := vx_ot_at hW0 hvm.symm (hgood _ (List.mem_cons_of_mem _ List.mem_cons_self)) hini
  have hU' : vx_Zq Bundle.tN "UNASSIGNED_STACK" Bundle.steD A s' s'.heap := by rw [hhp]; exact vx_Zq.moved hW0.alike (hU.kept hS.2.1)
  have hN' : vx_Zq Bundle.tN "SUPPRESSED_SENTINEL" Bundle.listD A s' s'.heap := by rw [hhp]; exact vx_Zq.moved hW0.alike (hN.kept hS.2.1)
  have h : ∀ w ∈ Bundle.ownAtoms0 own ic cls names, w.before args s' = true := vx_own hat' (vx_isRefq hU'.1) (vx_isRefq hN'.1) hU'.2.word hN'.2.word
  have hown' : s'.vm.findClass own = some m.cls := by rw [hvm]; exact hown
  have hins : (Cond.instantiable cls 6).before args s' = true := h _ (by simp [Bundle.ownAtoms0])
  obtain ⟨vm₁, cX, kX, hfX, hkX, -, -, X₁, st1⟩ := Y.newCold hexec (own := own) (C := cls) (index := ik) (n := 6) hown' hk' hins hini'
    (g := F0 m pc ls rest) rfl (by rw [hb]; exact d0) (Nat.le_refl _) (Nat.le_refl _)
  generalize hT1 : (T.setVm vm₁).pushCell { cls := cX, slots := kX.instanceTypes.map defaultValue, vm := .none } = T1 at X₁ st1
  have hcat : (Value.ref T.heap.size).category = 1 := rfl
  have hcellA : T1.heap[T.heap.size]? = some (freshCell cX kX) := by rw [← hT1]; exact State.heap_pushCell_size _ _
  have d3' : decode c.code (pc + 3) = .ok (.dup, 1) := by rw [hb]; exact d3
  obtain ⟨U, hsteps, hrun, hend, hW, hsame, ce, hce, hO⟩ := X₁.ctorThrow0 hexec htr (own := own) (cls := cls) (names := names) (ic := ic) hown' hcls hnames h (fun x hx => nomatch hx) hfX hkX hcellA (by rw [hhp, hT]; exact Nat.le_refl _)
    (g := { method := m, pc := pc + 4, locals := ls, stack := .ref T.heap.size :: .ref T.heap.size :: rest, locked := none }) rfl hsize rfl rfl (rest := rest) rfl
    (by rw [hb]; exact d4) (by rw [hb]; exact d7) hout hRframes (by simp only [List.map_cons, List.sum_cons, hcat]; omega) hlocks
  obtain ⟨f1, f2⟩ := vx_frame hsame
  rw [hhp] at f1 f2
  have hWs : s.WarmedH U.vm := State.WarmedH.trans hW0 hW
  have hcl : s.vm.findClass cls = some ce.cls := by
    have h9 := hO.cls
    rw [hvm] at h9
    exact h9
  have hall : s.sameButNew ({ U with vm := s.vm } : State) locs mc ms := by
    subst hA
    obtain ⟨e1, e2⟩ := hsame
    rw [State.setFrames_setFrames] at e1
    have h2 : (T.setVm s.vm).sameButNew ({ U with vm := s.vm } : State) [] (0 + 1) (0 + 6) := ⟨e1, e2⟩
    have h3 := X.same.trans h2
    rw [List.append_nil] at h3
    exact h3.mono hc hs
  refine ⟨U, ?_, .threw T.heap.size, hrun, hend, Or.inr ⟨T.heap.size, rfl, cls, ce, locs, hx U hWs.alike f1 (fun q hq => f2 q hq (fun z hz => nomatch hz)), hce, hO.vm, hcl, hWs, hall, hf⟩⟩
  refine st1 _ ?_
  show Steps p.tables e below (T1.setTop { method := m, pc := pc + 3, locals := ls, stack := .ref T.heap.size :: rest, locked := none }) _
  jvm_step X₁.here [X₁.here.top, hexec, d3', Value.category]
  exact hsteps
/-- 'throw new E("text")': new; dup; ldc; invokespecial; athrow -/
theorem vx_throwS {cc : ByteArray} {pc : Nat} (hexec : p.tables.exec = Jvm.exec) (hb : c.code = cc) (hl : l.stackTraces = false) {own cls text : String} {names : List String} {ik is ic mc ms sa : Nat} {A : Nat → Prop}
    (hown : s.vm.findClass own = some m.cls) (hcls : Bundle.fit cls = true) (hnames : ∀ n ∈ names, Bundle.fit n = true)
    (hk : (Cond.classLink own ik cls).before args s = true) (hini : (Cond.initialized cls).before args s = true) (hstr : vk_R own is text sa s) (hat : ∀ w ∈ vx_atS own ic cls names, w.before args s = true)
    (hgood : ∀ w ∈ Cond.classLink own ik cls :: Cond.initialized cls :: vx_atS own ic cls names, vx_ot w = true)
    (hU : vx_Zq Bundle.tN "UNASSIGNED_STACK" Bundle.steD A s s.heap) (hN : vx_Zq Bundle.tN "SUPPRESSED_SENTINEL" Bundle.listD A s s.heap) (hS : va_S A s.heap H locs) (hsize : ls.size = c.maxLocals)
    (d0 : decode cc pc = .ok (.new ik, 3)) (d3 : decode cc (pc + 3) = .ok (.dup, 1)) (d4 : decode cc (pc + 4) = .ok (.ldc is, 2)) (d6 : decode cc (pc + 6) = .ok (.invokespecial ic, 3)) (d9 : decode cc (pc + 9) = .ok (.athrow, 1))
    (hout : ∀ x ∈ c.exceptionTable.toList, covers x (pc + 9) = false)
    (hRframes : names.length + 3 < R.frames) (hRlocals : (rest.map fun v => v.category).sum + (13 * (names.length + 1) + 43) ≤ R.locals) (hRcells : cells + 1 ≤ R.cells) (hRslots : slots + 6 ≤ R.slots) (hlocks : meth.locks = false)
    (hx : ∀ t : State, s.vm.Alike t.vm → H.size ≤ t.heap.size → (∀ q : Nat, q < H.size → t.heap[q]? = H[q]?) → XC cls s t)
    (hf : ∀ z ∈ locs, free z.base) (hc : cells + 1 ≤ mc) (hs : slots + 6 ≤ ms) :
    W p l e R s m args below meth c H locs cells slots (vx_MQ below Qc XC args s mc ms free) (F0 m pc ls rest) := by
  intro T hT X
  have htr : e.platform.stackTraces = false := (show e.platform.stackTraces = l.stackTraces by rw [X.admits.platform]).trans hl
  have Y := vx_rebase X (R' := { frames := R.frames, locals := R.locals, cells := 1, slots := 6 }) (Nat.le_refl _) (Nat.le_refl _) hRcells hRslots
  obtain ⟨s', hA⟩ : ∃ z, z = (T.setVm s.vm).setFrames (.invoking m args :: below) := ⟨_, rfl⟩
  rw [← hA] at Y
  have hvm : s'.vm = s.vm := by rw [hA]; rfl
  have hhp : s'.heap = H := by rw [hA]; exact hT
  have hW0 : s.WarmedH s'.vm := by rw [hvm]; exact State.WarmedH.refl s
  have hat' : ∀ w ∈ vx_atS own ic cls names, w.before args s' = true := fun w hw => vx_ot_at hW0 hvm.symm (hgood w (List.mem_cons_of_mem _ (List.mem_cons_of_mem _ hw))) (hat w hw)
  have hk' : (Cond.classLink own ik cls).before args s' = true := vx_ot_at hW0 hvm.symm (hgood _ List.mem_cons_self) hk
  have hini' : (Cond.initialized cls).before args s' = true := vx_ot_at hW0 hvm.symm (hgood _ (List.mem_cons_of_mem _ List.mem_cons_self)) hini
  have hU' : vx_Zq Bundle.tN "UNASSIGNED_STACK" Bundle.steD A s' s'.heap := by rw [hhp]; exact vx_Zq.moved hW0.alike (hU.kept hS.2.1)
  have hN' : vx_Zq Bundle.tN "SUPPRESSED_SENTINEL" Bundle.listD A s' s'.heap := by rw [hhp]; exact vx_Zq.moved hW0.alike (hN.kept hS.2.1)
  have h : ∀ w ∈ Bundle.ownAtoms own ic cls names, w.before args s' = true := vx_own hat' (vx_isRefq hU'.1) (vx_isRefq hN'.1) hU'.2.word hN'.2.word
  have hown' : s'.vm.findClass own = some m.cls := by rw [hvm]; exact hown
  have hins : (Cond.instantiable cls 6).before args s' = true := h _ (by simp [Bundle.ownAtoms])
  obtain ⟨vm₁, cX, kX, hfX, hkX, -, -, X₁, st1⟩ := Y.newCold hexec (own := own) (C := cls) (index := ik) (n := 6) hown' hk' hins hini'
    (g := F0 m pc ls rest) rfl (by rw [hb]; exact d0) (Nat.le_refl _) (Nat.le_refl _)
  generalize hT1 : (T.setVm vm₁).pushCell { cls := cX, slots := kX.instanceTypes.map defaultValue, vm := .none } = T1 at X₁ st1
  have hcat : (Value.ref T.heap.size).category = 1 := rfl
  have hcellA : T1.heap[T.heap.size]? = some (freshCell cX kX) := by rw [← hT1]; exact State.heap_pushCell_size _ _
  have d3' : decode c.code (pc + 3) = .ok (.dup, 1) := by rw [hb]; exact d3
  have d4' : decode c.code (pc + 4) = .ok (.ldc is, 2) := by rw [hb]; exact d4
  have hstr' : vk_R own is text sa s' := vk_R.warm hW0 hstr
  obtain ⟨U, hsteps, hrun, hend, hW, hsame, ce, hce, hO⟩ := X₁.ctorThrowS hexec htr (own := own) (cls := cls) (names := names) (ic := ic) hown' hcls hnames h (fun x hx => nomatch hx) hfX hkX hcellA (by rw [hhp, hT]; exact Nat.le_refl _) (msg := .ref sa) rfl
    (g := { method := m, pc := pc + 6, locals := ls, stack := .ref sa :: .ref T.heap.size :: .ref T.heap.size :: rest, locked := none }) rfl hsize rfl rfl (rest := rest) rfl
    (by rw [hb]; exact d6) (by rw [hb]; exact d9) hout hRframes (by simp only [List.map_cons, List.sum_cons, hcat]; omega) hlocks
  obtain ⟨f1, f2⟩ := vx_frame hsame
  rw [hhp] at f1 f2
  have hWs : s.WarmedH U.vm := State.WarmedH.trans hW0 hW
  have hcl : s.vm.findClass cls = some ce.cls := by
    have h9 := hO.cls
    rw [hvm] at h9
    exact h9
  have hall : s.sameButNew ({ U with vm := s.vm } : State) locs mc ms := by
    subst hA
    obtain ⟨e1, e2⟩ := hsame
    rw [State.setFrames_setFrames] at e1
    have h2 : (T.setVm s.vm).sameButNew ({ U with vm := s.vm } : State) [] (0 + 1) (0 + 6) := ⟨e1, e2⟩
    have h3 := X.same.trans h2
    rw [List.append_nil] at h3
    exact h3.mono hc hs
  refine ⟨U, ?_, .threw T.heap.size, hrun, hend, Or.inr ⟨T.heap.size, rfl, cls, ce, locs, hx U hWs.alike f1 (fun q hq => f2 q hq (fun z hz => nomatch hz)), hce, hO.vm, hcl, hWs, hall, hf⟩⟩
  refine st1 _ ?_
  show Steps p.tables e below (T1.setTop { method := m, pc := pc + 3, locals := ls, stack := .ref T.heap.size :: rest, locked := none }) _
  jvm_step X₁.here [X₁.here.top, hexec, d3', Value.category]
  exact X₁.ldcString hexec (own := own) (text := text) (index := is) (a := sa) hown' hstr'.1 hstr'.2
    (g := { method := m, pc := pc + 4, locals := ls, stack := .ref T.heap.size :: .ref T.heap.size :: rest, locked := none }) rfl d4' _ hsteps
/-- 'throw new E("text")', the text by a wide index -/
theorem vx_throwSW {cc : ByteArray} {pc : Nat} (hexec : p.tables.exec = Jvm.exec) (hb : c.code = cc) (hl : l.stackTraces = false) {own cls text : String} {names : List String} {ik is ic mc ms sa : Nat} {A : Nat → Prop}
    (hown : s.vm.findClass own = some m.cls) (hcls : Bundle.fit cls = true) (hnames : ∀ n ∈ names, Bundle.fit n = true)
    (hk : (Cond.classLink own ik cls).before args s = true) (hini : (Cond.initialized cls).before args s = true) (hstr : vk_R own is text sa s) (hat : ∀ w ∈ vx_atS own ic cls names, w.before args s = true)
    (hgood : ∀ w ∈ Cond.classLink own ik cls :: Cond.initialized cls :: vx_atS own ic cls names, vx_ot w = true)
    (hU : vx_Zq Bundle.tN "UNASSIGNED_STACK" Bundle.steD A s s.heap) (hN : vx_Zq Bundle.tN "SUPPRESSED_SENTINEL" Bundle.listD A s s.heap) (hS : va_S A s.heap H locs) (hsize : ls.size = c.maxLocals)
    (d0 : decode cc pc = .ok (.new ik, 3)) (d3 : decode cc (pc + 3) = .ok (.dup, 1)) (d4 : decode cc (pc + 4) = .ok (.ldc_w is, 3)) (d7 : decode cc (pc + 7) = .ok (.invokespecial ic, 3)) (d10 : decode cc (pc + 10) = .ok (.athrow, 1))
    (hout : ∀ x ∈ c.exceptionTable.toList, covers x (pc + 10) = false)
    (hRframes : names.length + 3 < R.frames) (hRlocals : (rest.map fun v => v.category).sum + (13 * (names.length + 1) + 43) ≤ R.locals) (hRcells : cells + 1 ≤ R.cells) (hRslots : slots + 6 ≤ R.slots) (hlocks : meth.locks = false)
    (hx : ∀ t : State, s.vm.Alike t.vm → H.size ≤ t.heap.size → (∀ q : Nat, q < H.size → t.heap[q]? = H[q]?) → XC cls s t)
    (hf : ∀ z ∈ locs, free z.base) (hc : cells + 1 ≤ mc) (hs : slots + 6 ≤ ms) :
    W p l e R s m args below meth c H locs cells slots (vx_MQ below Qc XC args s mc ms free) (F0 m pc ls rest) := by
  intro T hT X
  have htr : e.platform.stackTraces = false := (show e.platform.stackTraces = l.stackTraces by rw [X.admits.platform]).trans hl
  have Y := vx_rebase X (R' := { frames := R.frames, locals := R.locals, cells := 1, slots := 6 }) (Nat.le_refl _) (Nat.le_refl _) hRcells hRslots
  obtain ⟨s', hA⟩ : ∃ z, z = (T.setVm s.vm).setFrames (.invoking m args :: below) := ⟨_, rfl⟩
  rw [← hA] at Y
  have hvm : s'.vm = s.vm := by rw [hA]; rfl
  have hhp : s'.heap = H := by rw [hA]; exact hT
  have hW0 : s.WarmedH s'.vm := by rw [hvm]; exact State.WarmedH.refl s
  have hat' : ∀ w ∈ vx_atS own ic cls names, w.before args s' = true := fun w hw => vx_ot_at hW0 hvm.symm (hgood w (List.mem_cons_of_mem _ (List.mem_cons_of_mem _ hw))) (hat w hw)
  have hk' : (Cond.classLink own ik cls).before args s' = true := vx_ot_at hW0 hvm.symm (hgood _ List.mem_cons_self) hk
  have hini' : (Cond.initialized cls).before args s' = true := vx_ot_at hW0 hvm.symm (hgood _ (List.mem_cons_of_mem _ List.mem_cons_self)) hini
  have hU' : vx_Zq Bundle.tN "UNASSIGNED_STACK" Bundle.steD A s' s'.heap := by rw [hhp]; exact vx_Zq.moved hW0.alike (hU.kept hS.2.1)
  have hN' : vx_Zq Bundle.tN "SUPPRESSED_SENTINEL" Bundle.listD A s' s'.heap := by rw [hhp]; exact vx_Zq.moved hW0.alike (hN.kept hS.2.1)
  have h : ∀ w ∈ Bundle.ownAtoms own ic cls names, w.before args s' = true := vx_own hat' (vx_isRefq hU'.1) (vx_isRefq hN'.1) hU'.2.word hN'.2.word
  have hown' : s'.vm.findClass own = some m.cls := by rw [hvm]; exact hown
  have hins : (Cond.instantiable cls 6).before args s' = true := h _ (by simp [Bundle.ownAtoms])
  obtain ⟨vm₁, cX, kX, hfX, hkX, -, -, X₁, st1⟩ := Y.newCold hexec (own := own) (C := cls) (index := ik) (n := 6) hown' hk' hins hini'
    (g := F0 m pc ls rest) rfl (by rw [hb]; exact d0) (Nat.le_refl _) (Nat.le_refl _)
  generalize hT1 : (T.setVm vm₁).pushCell { cls := cX, slots := kX.instanceTypes.map defaultValue, vm := .none } = T1 at X₁ st1
  have hcat : (Value.ref T.heap.size).category = 1 := rfl
  have hcellA : T1.heap[T.heap.size]? = some (freshCell cX kX) := by rw [← hT1]; exact State.heap_pushCell_size _ _
  have d3' : decode c.code (pc + 3) = .ok (.dup, 1) := by rw [hb]; exact d3
  have d4' : decode c.code (pc + 4) = .ok (.ldc_w is, 3) := by rw [hb]; exact d4
  have hstr' : vk_R own is text sa s' := vk_R.warm hW0 hstr
  obtain ⟨U, hsteps, hrun, hend, hW, hsame, ce, hce, hO⟩ := X₁.ctorThrowS hexec htr (own := own) (cls := cls) (names := names) (ic := ic) hown' hcls hnames h (fun x hx => nomatch hx) hfX hkX hcellA (by rw [hhp, hT]; exact Nat.le_refl _) (msg := .ref sa) rfl
    (g := { method := m, pc := pc + 7, locals := ls, stack := .ref sa :: .ref T.heap.size :: .ref T.heap.size :: rest, locked := none }) rfl hsize rfl rfl (rest := rest) rfl
    (by rw [hb]; exact d7) (by rw [hb]; exact d10) hout hRframes (by simp only [List.map_cons, List.sum_cons, hcat]; omega) hlocks
  obtain ⟨f1, f2⟩ := vx_frame hsame
  rw [hhp] at f1 f2
  have hWs : s.WarmedH U.vm := State.WarmedH.trans hW0 hW
  have hcl : s.vm.findClass cls = some ce.cls := by
    have h9 := hO.cls
    rw [hvm] at h9
    exact h9
  have hall : s.sameButNew ({ U with vm := s.vm } : State) locs mc ms := by
    subst hA
    obtain ⟨e1, e2⟩ := hsame
    rw [State.setFrames_setFrames] at e1
    have h2 : (T.setVm s.vm).sameButNew ({ U with vm := s.vm } : State) [] (0 + 1) (0 + 6) := ⟨e1, e2⟩
    have h3 := X.same.trans h2
    rw [List.append_nil] at h3
    exact h3.mono hc hs
  refine ⟨U, ?_, .threw T.heap.size, hrun, hend, Or.inr ⟨T.heap.size, rfl, cls, ce, locs, hx U hWs.alike f1 (fun q hq => f2 q hq (fun z hz => nomatch hz)), hce, hO.vm, hcl, hWs, hall, hf⟩⟩
  refine st1 _ ?_
  show Steps p.tables e below (T1.setTop { method := m, pc := pc + 3, locals := ls, stack := .ref T.heap.size :: rest, locked := none }) _
  jvm_step X₁.here [X₁.here.top, hexec, d3', Value.category]
  exact X₁.ldcStringW hexec (own := own) (text := text) (index := is) (a := sa) hown' hstr'.1 hstr'.2
    (g := { method := m, pc := pc + 4, locals := ls, stack := .ref T.heap.size :: .ref T.heap.size :: rest, locked := none }) rfl d4' _ hsteps
end Ends
section Bodies
variable {l : Launch}
theorem vx_ofW {y : MethodName} {ws ws' : List Cond} {rm : Room} {Pc : Array Value → State → Prop} {Qc : Array Value → State → Outcome → State → Prop} {XC : String → State → State → Prop} {mc ms : Nat} {free : Addr → Prop} {cc : ByteArray} {maxL : Nat} {ret : Option FieldType}
    (hy : plainName y.cls = true) (hw : ws = Cond.code y cc maxL ret :: ws')
    (body : ∀ p e s m args below meth c s₁, BodyLoose p l y (headSpec ws rm) cc maxL ret e s m args below meth c s₁ → c.maxLocals = maxL → (∀ x ∈ c.exceptionTable.toList, False) → Pc args s →
      W p l e (headSpec ws rm).room s m args below meth c s.heap [] 0 0 (vx_MQ below Qc XC args s mc ms free) (entryFrame m args maxL)) : vx_Met l y ws rm Pc Qc XC mc ms free := by
  refine MetFree.of_bodyS (code := cc) (maxLocals := maxL) (ret := ret) hy ?_ ?_
  · intro args s m h hn
    obtain ⟨meth, c, h1, h2, h3, h4, h5, h6, -, -⟩ := Cond.code_spec hn (atoms_spec (ws := ws) h _ (by rw [hw]; exact List.mem_cons_self))
    exact ⟨meth, c, h1, h2, h3, h4, h5, h6⟩
  · intro p e s m args below meth c s₁ B hml hP _
    have hh0 : s₁.heap = s.heap := by rw [B.state]; rfl
    have ht : ∀ x ∈ c.exceptionTable.toList, False := by
      obtain ⟨meth9, c9, h1, h2, -, -, -, -, h7, -⟩ := Cond.code_spec B.named (atoms_spec (ws := ws) B.pre _ (by rw [hw]; exact List.mem_cons_self))
      cases Option.some.inj (h1.symm.trans B.method)
      cases Option.some.inj (h2.symm.trans (Stand.of_body B).code)
      intro x hx
      rw [Array.isEmpty_iff.mp h7] at hx
      cases hx
    obtain ⟨t, a1, o, b1, b2, b3⟩ := body p e s m args below meth c s₁ B hml ht hP s₁ hh0 (Stand.of_body B)
    exact ⟨t, o, a1, b1, b2, b3⟩
/-- the table of a body with handlers -/
theorem vx_table {p : Program} {x y : MethodName} {S : Spec} {cc bytes : ByteArray} {maxL maxL' : Nat} {ret ret' : Option FieldType} {e : Env} {s s₁ : State} {m : MethodId} {args : Array Value} {below : List Frame} {meth : Method} {c : Code} {hh : List (Nat × Nat × Nat × Nat)}
    (B : BodyLoose p l y S cc maxL ret e s m args below meth c s₁) (h : (Cond.codeWith y bytes maxL' ret' hh).before args s = true) : c.exceptionTable.toList = tableOf hh := by
  obtain ⟨m9, meth9, c9, hn9, h1, h2, -, -, h6, -⟩ := Cond.codeWith_spec h
  cases Option.some.inj (hn9.symm.trans B.named)
  cases Option.some.inj (h1.symm.trans B.method)
  cases Option.some.inj (h2.symm.trans (Stand.of_body B).code)
  rw [← h6, table_eq]
end Bodies
end VXA
/-! ===== END ===== -/
/-! ===== BEGIN a static call of a method with an exception table ===== -/
section VXS
variable {p : Program} {l : Launch} {e : Env} {R : Room} {s : State} {m : MethodId} {args : Array Value} {below : List Frame} {meth : Method} {c : Code} {T : State} {H : Heap} {locs : List Loc} {cells slots : Nat}
abbrev vx_CSW (R : Room) (s : State) (args : Array Value) (own : String) (index : Nat) (y : MethodName) (bytes : ByteArray) (maxL : Nat) (ret : Option FieldType) (hh : List (Nat × Nat × Nat × Nat)) (ws : List Cond) (rm : Room) (mc ms n : Nat) : Prop :=
  (rm.cells = mc ∧ rm.slots = ms ∧ rm.frames + 1 ≤ R.frames ∧ 8 + (maxL + 11) + rm.locals ≤ R.locals ∧ (∀ w ∈ ws, ∀ (a' : Array Value) (U : State), s.WarmedH U.vm → w.before a' U = true) ∧ Cond.codeWith y bytes maxL ret hh ∈ ws) ∧
  (Cond.codeWith y bytes maxL ret hh).before args s = true ∧ (Cond.initialized y.cls).before args s = true ∧ (y.cls ≠ "java/lang/invoke/MethodHandle" ∧ y.cls ≠ "java/lang/invoke/VarHandle") ∧
  (∀ sig, parseMethodDescriptor y.desc = some sig → n = sig.parameters.length) ∧ (Cond.methodLink own index y).before args s = true ∧ (Cond.static y).before args s = true
theorem vx_cwSW {own : String} {index maxL mc ms : Nat} {y : MethodName} {bytes : ByteArray} {ret : Option FieldType} {hh : List (Nat × Nat × Nat × Nat)} {Ts ws ws' : List Cond} {rm : Room} (n : Nat) (ht : ∀ w ∈ Ts, w.before args s = true) (hT : GoodIn Ts (va_wsS own index y ws)) (hw : ws = Cond.codeWith y bytes maxL ret hh :: ws') (hrc : rm.cells = mc) (hrs : rm.slots = ms)
    (hd : y.cls ≠ "java/lang/invoke/MethodHandle" ∧ y.cls ≠ "java/lang/invoke/VarHandle" ∧ (parseMethodDescriptor y.desc).map (fun d => d.parameters.length) = some n) (hR : rm.frames + 1 ≤ R.frames ∧ 8 + (maxL + 11) + rm.locals ≤ R.locals) :
    vx_CSW R s args own index y bytes maxL ret hh ws rm mc ms n := by
  have ok : ∀ w ∈ va_wsS own index y ws, w.before args s = true := fun w h => ht w (hT w h).1
  have hG : GoodIn Ts ws := fun w h => hT w (by unfold va_wsS; exact List.mem_append_right _ h)
  have hc : Cond.codeWith y bytes maxL ret hh ∈ ws := by rw [hw]; exact List.mem_cons_self
  refine ⟨⟨hrc, hrs, hR.1, hR.2, pay_in ht hG, hc⟩, ht _ (hG _ hc).1, ok _ (by simp [va_wsS]), ⟨hd.1, hd.2.1⟩, fun sig h => ?_, ok _ (by simp [va_wsS]), ok _ (by simp [va_wsS])⟩
  have h2 := hd.2.2
  rw [h] at h2
  exact (Option.some.inj h2).symm
theorem vx_callSW (X : Stand p l e R s m args below meth c T locs cells slots) (hexec : p.tables.exec = Jvm.exec) {own : String} {index : Nat} {y : MethodName} {bytes : ByteArray} {maxL : Nat} {ret : Option FieldType} {hh : List (Nat × Nat × Nat × Nat)}
    (hown : s.vm.findClass own = some m.cls) (hlink : (Cond.methodLink own index y).before args s = true) (hstat : (Cond.static y).before args s = true) (hinit : (Cond.initialized y.cls).before args s = true)
    (hcode : (Cond.codeWith y bytes maxL ret hh).before args s = true) (hy : y.cls ≠ "java/lang/invoke/MethodHandle" ∧ y.cls ≠ "java/lang/invoke/VarHandle")
    {W9 : Nat} {Pre : Pt → Array Value → Prop} {Post : Pt → Array Value → Option Value → Pt → Prop} (hK : Back l R p e below s args y 3 W9 Pre Post)
    {g : JFrame} (hg : g.method = m) (hsize : g.locals.size = c.maxLocals) {argsL rest : List Value} (hlen : ∀ sig, parseMethodDescriptor y.desc = some sig → argsL.length = sig.parameters.length)
    (hstack : g.stack = argsL.reverse ++ rest) (hW : 2 * g.monitorRoom + (rest.map fun v => v.category).sum ≤ W9) (hdg : decode c.code g.pc = .ok (.invokestatic index, 3))
    (hpre : ∀ vm₁, s.WarmedH vm₁ → Pre ⟨T.setVm vm₁, locs, cells, slots⟩ argsL.toArray) :
    ∃ (v : Option Value) (vm₁ : Vm) (B : Pt), s.WarmedH vm₁ ∧ Stand p l e R s m args below meth c B.U B.locs B.cells B.slots ∧ Post ⟨T.setVm vm₁, locs, cells, slots⟩ argsL.toArray v B ∧
      ∀ target, Steps p.tables e below (B.U.setTop { g with pc := g.pc + 3, stack := v.toList ++ rest }) target → Steps p.tables e below (T.setTop g) target := by
  obtain ⟨mk, methM, cM, hnamed, hmethM, -, -, -, -, -, -, hsigM⟩ := Cond.codeWith_spec hcode
  have hstatic : methM.isStatic = true := Cond.static_spec hnamed hmethM hstat
  obtain ⟨kP, hkP, -⟩ := className_of_methodNamed hnamed
  have hinitP : kP.init = .initialized := Cond.initialized_spec (findClass_of_methodNamed hnamed) hkP hinit
  obtain ⟨vm₁, X₁, hstep₁⟩ := X.invokestatic hexec hown hlink hnamed hmethM hstatic hkP hinitP hy (g := g) hg (argsL := argsL) (rest := rest) (hlen _ hsigM) hstack hdg
  obtain ⟨v, B, X', hpost, hsteps⟩ := hK m meth c ⟨T.setVm vm₁, locs, cells, slots⟩ { g with stack := rest } (.invokestatic index) mk argsL.toArray X₁ hg hsize hdg hW (X₁.named hnamed) (hpre vm₁ X₁.warmed)
  exact ⟨v, vm₁, B, X₁.warmed, X', hpost, fun target h => hstep₁ _ fun acts => by rw [doInvoke_state]; exact hsteps.trans h⟩
theorem vx_runSW {y : MethodName} {bytes cc : ByteArray} {maxL nL mc ms n index : Nat} {ret : Option FieldType} {hh : List (Nat × Nat × Nat × Nat)} {ws : List Cond} {rm : Room} {Pc : Array Value → State → Prop} {Qc : Array Value → State → Outcome → State → Prop} {free : Addr → Prop} {Ts : List Cond} {own : String} {As rest : List Value} {g : JFrame}
    (S : CallFix p m c cc nL s args Ts own) (hM : Met l y ws rm Pc Qc mc ms free) (cw : vx_CSW R s args own index y bytes maxL ret hh ws rm mc ms n) (hp : PreS s H Pc As)
    (hg : g.method = m) (hn : As.length = n) (hsize : g.locals.size = nL) (hstack : g.stack = As.reverse ++ rest) (hW : 2 * g.monitorRoom + (rest.map fun v => v.category).sum ≤ 8) (hdg : decode cc g.pc = .ok (.invokestatic index, 3)) (hf : cells + mc ≤ R.cells ∧ slots + ms ≤ R.slots) :
    va_Run p l e R s m args below meth c H locs cells slots mc ms g rest (Qc As.toArray) (free) := by
  obtain ⟨⟨hrc, hrs, hfr, hlo, hws, hcw⟩, hcode, hini, hy, hlen, hl, hstt⟩ := cw
  have hK : Back l R p e below s args y 3 8 (PreOf R mc ms Pc) (PostOf Qc mc ms free) := va_backW (hh := hh) (bytes := bytes) (maxL := maxL) (ret := ret) hM hp.1 hrc hrs hfr hlo hws hcw (fun a' U hW => word_at hW (Or.inl (by first | rfl | simp [Cond.onTables, Cond.keeps, Cond.steady])) hini)
  obtain ⟨hx, hb, hml, ho, -⟩ := S
  intro T hT X
  obtain ⟨v, vm₁, ⟨U', l2, c2, s2⟩, hW₁, X', ⟨g', mk, t, L, e1, e2, hq, h1, hL, h2, h3⟩, st⟩ := vx_callSW X hx (hh := hh) (bytes := bytes) (maxL := maxL) (ret := ret) ho hl hstt hini hcode hy hK hg (hsize.trans hml.symm) (argsL := As) (rest := rest) (fun sig h => hn.trans (hlen sig h)) hstack hW (by rw [hb]; exact hdg)
    (fun vm₁ hW₁ => ⟨hf.1, hf.2, hp.2 (T.setVm vm₁) hT hW₁⟩)
  dsimp only [Pt.U, Pt.locs, Pt.cells, Pt.slots] at X' e1 e2 h1 h2 h3 st
  subst h1; subst h2; subst h3
  exact ⟨v, (T.setVm vm₁).calling g' mk As.toArray, t, U', L, hT, X', hL, e1, e2, hq, st⟩
/-- not caught here, past rows that name other classes: it goes on to the caller -/
theorem vx_outP {p : Program} {l : Launch} {e : Env} {R : Room} {s : State} {m : MethodId} {args : Array Value} {below : List Frame} {meth : Method} {c : Code} {H : Heap} {locs : List Loc} {cells slots : Nat} {free : Addr → Prop} {ls : Array Slot} {rest : List Value} {Qc : Array Value → State → Outcome → State → Prop} {XC : String → State → State → Prop}
    {pc : Nat} {own E : String} {ce : Cell} {q : Addr} {mc ms : Nat} (hown : s.vm.findClass own = some m.cls) (hlocks : meth.locks = false)
    (hpass : ∀ z ∈ c.exceptionTable.toList, covers z pc = false ∨ (z.catchType ≠ 0 ∧ ∃ nm : String, (Cond.classLink own z.catchType nm).before args s = true ∧ va_Nc E nm s)) (hcell : H[q]? = some ce) (hv : ce.vm = .none) (hcl : s.vm.findClass E = some ce.cls)
    (hx : ∀ t : State, t.heap = H → s.vm.Alike t.vm → XC E s t) (hf : ∀ z ∈ locs, free z.base) (hc : cells ≤ mc) (hs : slots ≤ ms) :
    vx_W p l e R s m args below meth c H locs cells slots (vx_MQ below Qc XC args s mc ms free) (F0 m pc ls rest) q := by
  intro T hT X
  have hpl : e.platform.magicAccessors = ({} : Platform).magicAccessors := by rw [X.admits.platform]
  obtain ⟨vm', hW', X', st⟩ := X.outThrough hlocks q (g := F0 m pc ls rest) rfl rfl rfl (cell := ce) (by rw [hT]; exact hcell) (by rw [hv]; rfl)
    (by obtain ⟨k9, h9, -⟩ := Vm.findClass_spec hcl; exact ⟨k9, h9⟩) (fun z hz => by
      rcases hpass z hz with h | ⟨hz0, nm, hl1, hn1⟩
      · exact Or.inl h
      · obtain ⟨c6, hc6, hcl6⟩ := Cond.classLink_spec hown hl1 e.platform hpl
        obtain ⟨a8, b8, h1, h2, h3⟩ := hn1
        cases Option.some.inj (h1.symm.trans hcl)
        cases Option.some.inj (h2.symm.trans hc6)
        exact Or.inr ⟨hz0, _, hcl6, h3⟩)
  obtain ⟨g₀, hfr⟩ := X'.frames_eq
  have hcell9 : ((T.setVm vm').setFrames (.throwing q :: below)).heap[q]? = some ce := by
    show T.heap[q]? = some ce
    rw [hT]; exact hcell
  have hend : Ended ((T.setVm vm').setFrames (.throwing q :: below)) below (.threw q) := State.frames_setFrames _ (State.cur_lt_of_frames hfr)
  refine ⟨(T.setVm vm').setFrames (.throwing q :: below), ?_, .threw q, X'.here.running, hend, Or.inr ⟨q, rfl, E, ce, locs, hx _ hT (X'.ends _).1.alike, hcell9, hv, hcl, (X'.ends _).1, (X'.ends _).2.mono hc hs, hf⟩⟩
  rw [X.pushThrowing_eq]
  exact st
/-- a thing of a world lies in the heap -/
theorem vx_lt {D : va_G} {cl : List vw_C} {ws : va_W} {H1 : Heap} (h : va_P D cl ws H1) {k : Nat} {q : Nat × va_E} (hk : ws[k]? = some q) : q.1 < H1.size := (h k q hk).lt
end VXS
/-! ===== END ===== -/
/-! ===== BEGIN methods with a table of their own: called by a name, returning or throwing ===== -/
section VXH
/-! vx_backW, vx_callVX, vx_callSX, vx_callVW, vx_runVW, vx_runVX, vx_runSX, vx_ofWH follow the same proofs as their sisters above (Free/Laws.lean, Shelf42/LK1.lean); vx_outP calls Shelf42/NT130.lean (outThrough). -/
section
variable {l : Launch} {R : Room} {p : Program} {e : Env} {below : List Frame} {s : State} {sargs : Array Value} {y : MethodName} {len W9 : Nat}
theorem vx_backW {ws : List Cond} {rm : Room} {Pc : Array Value → State → Prop} {Qc : Array Value → State → Outcome → State → Prop} {XC : String → State → State → Prop} {mc ms : Nat} {free : Addr → Prop} {bytes : ByteArray} {maxL : Nat} {ret : Option FieldType} {hh : List (Nat × Nat × Nat × Nat)}
    (hM : vx_Met l y ws rm Pc Qc XC mc ms free) (hblind : FrameBlind Pc) (hrc : rm.cells = mc) (hrs : rm.slots = ms)
    (hframes : rm.frames + 1 ≤ R.frames) (hlocals : W9 + (maxL + 11) + rm.locals ≤ R.locals)
    (hws : ∀ w ∈ ws, ∀ a' U, s.WarmedH U.vm → w.before a' U = true) (hcode : Cond.codeWith y bytes maxL ret hh ∈ ws) (hinit : ∀ a' U, s.WarmedH U.vm → (Cond.initialized y.cls).before a' U = true) :
    vx_Back l R p e below s sargs y len W9 (PreOf R mc ms Pc) (PostOf Qc mc ms free) (vx_Post XC mc ms free) := by
  intro m meth c A g ig mk a X hg hsize hdg hW hn hp
  have h1 : (headSpec ws rm).pre.before a A.U = true := atoms_intro fun w hw => hws w hw _ _ X.warmed
  have h2 : (Cond.codeWith y bytes maxL ret hh).before a A.U = true := hws _ hcode _ _ X.warmed
  have h3 : (Cond.initialized y.cls).before a A.U = true := hinit _ _ X.warmed
  have h4 : A.cells + (headSpec ws rm).room.cells ≤ R.cells := by rw [show (headSpec ws rm).room.cells = mc from hrc]; exact hp.1
  have h5 : A.slots + (headSpec ws rm).room.slots ≤ R.slots := by rw [show (headSpec ws rm).room.slots = ms from hrs]; exact hp.2.1
  have hPc : Pc a (A.U.calling g mk a) := hblind _ _ _ _ hp.2.2
  obtain ⟨U, Ls, c0, s0⟩ := A
  dsimp only [Pt.U, Pt.locs, Pt.cells, Pt.slots] at h1 h2 h3 h4 h5 X hn hPc ⊢
  obtain ⟨m9, methY, cY, hn9, hmY, hcY, -, hlY, -⟩ := Cond.codeWith_spec h2
  cases Option.some.inj (hn9.symm.trans hn)
  obtain ⟨kY, hkY, -⟩ := className_of_methodNamed hn
  have hinitY : kY.init = .initialized := Cond.initialized_spec (findClass_of_methodNamed hn) hkY h3
  have h : At U g.method c below := by rw [hg]; exact X.here
  have hlocals9 : W9 + (maxL + 11) + (headSpec ws rm).room.locals ≤ R.locals := hlocals
  have happ : (headSpec ws rm).appliesLoose y e.platform (U.calling g mk a) = true :=
    Spec.appliesLoose_calling (g := g) h hdg hn hkY hinitY
      (X.room_calling (g := g) (R' := (headSpec ws rm).room) hsize hmY hcY hframes (by rw [hlY]; omega) h4 h5) h1
  obtain ⟨mid, hmid⟩ := h.above
  have hfr : (U.setTop g).frames = (.java g :: mid) ++ below := by rw [State.frames_setTop' g h.top, hmid]; rfl
  obtain ⟨o, s₂, hsteps, -, hend, hq⟩ := Steps.callFree hM p X.admits X.cas X.clock (acts := []) hfr happ hPc trivial
  have hq' : vx_Q Qc XC mc ms free a (U.calling g mk a) o s₂ := hq
  rw [State.frames_setTop' g h.top] at hend
  obtain ⟨g₀, hg0⟩ := Option.isSome_iff_exists.mp h.top
  obtain ⟨r, hr⟩ := State.topJava?_eq_some.mp hg0
  have hr' : (({ U with heap := s₂.heap, slotsUsed := s₂.slotsUsed } : State).setVm s₂.vm).frames = .java g₀ :: r := hr
  rcases hq' with ⟨hqc, L, hfe, hL⟩ | ⟨q, rfl, E, ce, L, hx, hce, hcv, hcl, hW₂, hsm, hL⟩
  · obtain ⟨⟨v, rfl⟩, hW₂, e2, q2, q3, q4, q5, q6⟩ := id hfe
    have e3 : s₂ = ({ (U.calling g mk a).setFrames s₂.frames with heap := s₂.heap, slotsUsed := s₂.slotsUsed } : State).setVm s₂.vm := by
      have : s₂ = ({ s₂ with vm := (U.calling g mk a).vm } : State).setVm s₂.vm := rfl
      rw [e2] at this
      exact this
    obtain ⟨c₂, i₂, len₂, hc₂, hd₂, hf₂⟩ := hend
    have hW' : U.WarmedH s₂.vm := hW₂
    have hcc : c₂ = c := by
      have h1 : s₂.code? g.method = U.code? g.method := by
        rw [State.code?_eq, State.code?_eq, hW'.alike.method?]
      exact Option.some.inj (hc₂.symm.trans (h1.trans h.code))
    subst hcc
    have hlen : len₂ = len := by rw [hdg] at hd₂; cases hd₂; rfl
    subst hlen
    have hs₂ : s₂ = (({ U with heap := s₂.heap, slotsUsed := s₂.slotsUsed } : State).setVm s₂.vm).setTop { g with pc := g.pc + len₂, stack := v.toList ++ g.stack } := by
      refine e3.trans ?_
      rw [hf₂, State.calling_eq h.top, State.setFrames_setFrames, State.setTop_of_frames _ hr', hr]
      rfl
    have hsame : U.sameButNew ({ U with heap := s₂.heap, slotsUsed := s₂.slotsUsed } : State) L mc ms := by
      refine ⟨?_, q2, q3, q4, q5, q6⟩
      obtain ⟨t, ht, -⟩ := State.frames_cons hr
      show ({ U with heap := s₂.heap, slotsUsed := s₂.slotsUsed } : State) = { U.setFrames U.frames with heap := s₂.heap, slotsUsed := s₂.slotsUsed }
      rw [State.setFrames_self ht]
    subst hg
    refine Or.inl ⟨v, ⟨(({ U with heap := s₂.heap, slotsUsed := s₂.slotsUsed } : State).setVm s₂.vm), Ls ++ L, c0 + mc, s0 + ms⟩,
      ⟨X.admits, X.cas, X.clock, X.frames, X.room, X.hears, X.method, X.code, (X.here.setHeapUsed s₂.heap s₂.slotsUsed).setVm hW'.alike, X.tail, State.WarmedH.trans X.warmed hW', X.limits, X.bytes, X.same.trans (hsame.setVm s.vm)⟩,
      ⟨g, mk, s₂, L, rfl, rfl, hqc, rfl, hL, rfl, rfl⟩, ?_⟩
    show Steps p.tables e below _ ((({ U with heap := s₂.heap, slotsUsed := s₂.slotsUsed } : State).setVm s₂.vm).setTop { g with pc := g.pc + len₂, stack := v.toList ++ g.stack })
    rw [← hs₂]
    exact hsteps
  · obtain ⟨e2, q2, q3, q4, q5, q6⟩ := id hsm
    have e3 : s₂ = ({ (U.calling g mk a).setFrames s₂.frames with heap := s₂.heap, slotsUsed := s₂.slotsUsed } : State).setVm s₂.vm := by
      have : s₂ = ({ s₂ with vm := (U.calling g mk a).vm } : State).setVm s₂.vm := rfl
      rw [e2] at this
      exact this
    have hf₂ : s₂.frames = .throwing q :: .java g :: U.frames.tail := hend
    have hW' : U.WarmedH s₂.vm := hW₂
    have hs₂ : s₂ = ((({ U with heap := s₂.heap, slotsUsed := s₂.slotsUsed } : State).setVm s₂.vm).setTop g).pushFrame (.throwing q) := by
      refine e3.trans ?_
      rw [hf₂, State.calling_eq h.top, State.setFrames_setFrames, State.pushFrame, State.frames_setTop _ hr', State.setTop_of_frames _ hr', State.setFrames_setFrames, hr]
      rfl
    have hsame : U.sameButNew ({ U with heap := s₂.heap, slotsUsed := s₂.slotsUsed } : State) L mc ms := by
      refine ⟨?_, q2, q3, q4, q5, q6⟩
      obtain ⟨t, ht, -⟩ := State.frames_cons hr
      show ({ U with heap := s₂.heap, slotsUsed := s₂.slotsUsed } : State) = { U.setFrames U.frames with heap := s₂.heap, slotsUsed := s₂.slotsUsed }
      rw [State.setFrames_self ht]
    subst hg
    refine Or.inr ⟨q, ⟨(({ U with heap := s₂.heap, slotsUsed := s₂.slotsUsed } : State).setVm s₂.vm), Ls ++ L, c0 + mc, s0 + ms⟩,
      ⟨X.admits, X.cas, X.clock, X.frames, X.room, X.hears, X.method, X.code, (X.here.setHeapUsed s₂.heap s₂.slotsUsed).setVm hW'.alike, X.tail, State.WarmedH.trans X.warmed hW', X.limits, X.bytes, X.same.trans (hsame.setVm s.vm)⟩,
      ⟨g, mk, s₂, L, E, ce, rfl, rfl, hx, hce, hcv, hcl, rfl, hL, rfl, rfl⟩, ?_⟩
    show Steps p.tables e below _ (((({ U with heap := s₂.heap, slotsUsed := s₂.slotsUsed } : State).setVm s₂.vm).setTop g).pushFrame (.throwing q))
    rw [← hs₂]
    exact hsteps
end
variable {p : Program} {l : Launch} {e : Env} {R : Room} {s : State} {m : MethodId} {args : Array Value} {below : List Frame} {meth : Method} {c : Code} {T : State} {H : Heap} {locs : List Loc} {cells slots : Nat}
theorem vx_callVX (X : Stand p l e R s m args below meth c T locs cells slots) (hexec : p.tables.exec = Jvm.exec) {own C : String} {index : Nat} {y : MethodName} {bytes : ByteArray} {maxL : Nat} {ret : Option FieldType} {hh : List (Nat × Nat × Nat × Nat)}
    (hown : s.vm.findClass own = some m.cls) (hlink : (Cond.methodLink own index y).before args s = true) (hinst : (Cond.instanceMethod y).before args s = true) (hsel : (Cond.selects C y y).before args s = true)
    (hcode : (Cond.codeWith y bytes maxL ret hh).before args s = true) (hy : y.cls ≠ "java/lang/invoke/MethodHandle" ∧ y.cls ≠ "java/lang/invoke/VarHandle")
    {W9 : Nat} {Pre : Pt → Array Value → Prop} {Post : Pt → Array Value → Option Value → Pt → Prop} {PostX : Pt → Array Value → Addr → Pt → Prop} (hK : vx_Back l R p e below s args y 3 W9 Pre Post PostX)
    {b : Addr} {cellB : Cell} (hcell : T.heap[b]? = some cellB) (hobj : cellB.vm.isStatics = false) (hcls : s.vm.findClass C = some cellB.cls)
    {g : JFrame} (hg : g.method = m) (hsize : g.locals.size = c.maxLocals) {argsL rest : List Value} (hlen : ∀ sig, parseMethodDescriptor y.desc = some sig → argsL.length = sig.parameters.length)
    (hstack : g.stack = argsL.reverse ++ .ref b :: rest) (hW : 2 * g.monitorRoom + (rest.map fun v => v.category).sum ≤ W9) (hdg : decode c.code g.pc = .ok (.invokevirtual index, 3))
    (hpre : ∀ vm₁, s.WarmedH vm₁ → Pre ⟨T.setVm vm₁, locs, cells, slots⟩ (Value.ref b :: argsL).toArray) :
    (∃ (v : Option Value) (vm₁ : Vm) (B : Pt), s.WarmedH vm₁ ∧ Stand p l e R s m args below meth c B.U B.locs B.cells B.slots ∧ Post ⟨T.setVm vm₁, locs, cells, slots⟩ (Value.ref b :: argsL).toArray v B ∧
      ∀ target, Steps p.tables e below (B.U.setTop { g with pc := g.pc + 3, stack := v.toList ++ rest }) target → Steps p.tables e below (T.setTop g) target) ∨
    (∃ (q : Addr) (vm₁ : Vm) (B : Pt), s.WarmedH vm₁ ∧ Stand p l e R s m args below meth c B.U B.locs B.cells B.slots ∧ PostX ⟨T.setVm vm₁, locs, cells, slots⟩ (Value.ref b :: argsL).toArray q B ∧
      Steps p.tables e below (T.setTop g) ((B.U.setTop { g with stack := rest }).pushFrame (.throwing q))) := by
  obtain ⟨mk, methM, hnamed, hmethM, hstM, habM⟩ := Cond.instanceMethod_spec hinst
  obtain ⟨m8, methM', cM, hn8, hmethM', -, -, -, -, -, -, hsigM⟩ := Cond.codeWith_spec hcode
  cases Option.some.inj (hn8.symm.trans hnamed)
  cases hmethM.symm.trans hmethM'
  obtain ⟨c2, r2, m2, q1, q2, q3, q4, kP, hkP, hkPi⟩ := Cond.selects_spec hsel
  cases hcls.symm.trans q1
  cases (State.methodFound?_of_named hnamed hy).symm.trans q2
  cases hnamed.symm.trans q3
  have hselP : selectMethod e.platform s.vm cellB.cls mk = .method mk := by rw [Launch.admits_selectMethod X.admits]; exact q4
  obtain ⟨vm₁, X₁, hstep₁⟩ := X.invokevirtual hexec hown hlink hnamed hmethM hstM hkP hkPi hy (a := b) (cell := cellB) hcell
    (fun z h => by rw [h] at hobj; cases hobj) hselP hmethM habM hkP hkPi (g := g) hg (argsL := argsL) (rest := rest) (hlen _ hsigM) hstack hdg
  rcases hK m meth c ⟨T.setVm vm₁, locs, cells, slots⟩ { g with stack := rest } (.invokevirtual index) mk (Value.ref b :: argsL).toArray X₁ hg hsize hdg hW (X₁.named hnamed) (hpre vm₁ X₁.warmed) with ⟨v, B, X', hpost, hsteps⟩ | ⟨q, B, X', hpost, hsteps⟩
  · exact Or.inl ⟨v, vm₁, B, X₁.warmed, X', hpost, fun target h => hstep₁ _ fun acts => by rw [doInvoke_state]; exact hsteps.trans h⟩
  · exact Or.inr ⟨q, vm₁, B, X₁.warmed, X', hpost, hstep₁ _ fun acts => by rw [doInvoke_state]; exact hsteps⟩
theorem vx_callSX (X : Stand p l e R s m args below meth c T locs cells slots) (hexec : p.tables.exec = Jvm.exec) {own : String} {index : Nat} {y : MethodName} {bytes : ByteArray} {maxL : Nat} {ret : Option FieldType} {hh : List (Nat × Nat × Nat × Nat)}
    (hown : s.vm.findClass own = some m.cls) (hlink : (Cond.methodLink own index y).before args s = true) (hstat : (Cond.static y).before args s = true) (hinit : (Cond.initialized y.cls).before args s = true)
    (hcode : (Cond.codeWith y bytes maxL ret hh).before args s = true) (hy : y.cls ≠ "java/lang/invoke/MethodHandle" ∧ y.cls ≠ "java/lang/invoke/VarHandle")
    {W9 : Nat} {Pre : Pt → Array Value → Prop} {Post : Pt → Array Value → Option Value → Pt → Prop} {PostX : Pt → Array Value → Addr → Pt → Prop} (hK : vx_Back l R p e below s args y 3 W9 Pre Post PostX)
    {g : JFrame} (hg : g.method = m) (hsize : g.locals.size = c.maxLocals) {argsL rest : List Value} (hlen : ∀ sig, parseMethodDescriptor y.desc = some sig → argsL.length = sig.parameters.length)
    (hstack : g.stack = argsL.reverse ++ rest) (hW : 2 * g.monitorRoom + (rest.map fun v => v.category).sum ≤ W9) (hdg : decode c.code g.pc = .ok (.invokestatic index, 3))
    (hpre : ∀ vm₁, s.WarmedH vm₁ → Pre ⟨T.setVm vm₁, locs, cells, slots⟩ argsL.toArray) :
    (∃ (v : Option Value) (vm₁ : Vm) (B : Pt), s.WarmedH vm₁ ∧ Stand p l e R s m args below meth c B.U B.locs B.cells B.slots ∧ Post ⟨T.setVm vm₁, locs, cells, slots⟩ argsL.toArray v B ∧
      ∀ target, Steps p.tables e below (B.U.setTop { g with pc := g.pc + 3, stack := v.toList ++ rest }) target → Steps p.tables e below (T.setTop g) target) ∨
    (∃ (q : Addr) (vm₁ : Vm) (B : Pt), s.WarmedH vm₁ ∧ Stand p l e R s m args below meth c B.U B.locs B.cells B.slots ∧ PostX ⟨T.setVm vm₁, locs, cells, slots⟩ argsL.toArray q B ∧
      Steps p.tables e below (T.setTop g) ((B.U.setTop { g with stack := rest }).pushFrame (.throwing q))) := by
  obtain ⟨mk, methM, cM, hnamed, hmethM, -, -, -, -, -, -, hsigM⟩ := Cond.codeWith_spec hcode
  have hstatic : methM.isStatic = true := Cond.static_spec hnamed hmethM hstat
  obtain ⟨kP, hkP, -⟩ := className_of_methodNamed hnamed
  have hinitP : kP.init = .initialized := Cond.initialized_spec (findClass_of_methodNamed hnamed) hkP hinit
  obtain ⟨vm₁, X₁, hstep₁⟩ := X.invokestatic hexec hown hlink hnamed hmethM hstatic hkP hinitP hy (g := g) hg (argsL := argsL) (rest := rest) (hlen _ hsigM) hstack hdg
  rcases hK m meth c ⟨T.setVm vm₁, locs, cells, slots⟩ { g with stack := rest } (.invokestatic index) mk argsL.toArray X₁ hg hsize hdg hW (X₁.named hnamed) (hpre vm₁ X₁.warmed) with ⟨v, B, X', hpost, hsteps⟩ | ⟨q, B, X', hpost, hsteps⟩
  · exact Or.inl ⟨v, vm₁, B, X₁.warmed, X', hpost, fun target h => hstep₁ _ fun acts => by rw [doInvoke_state]; exact hsteps.trans h⟩
  · exact Or.inr ⟨q, vm₁, B, X₁.warmed, X', hpost, hstep₁ _ fun acts => by rw [doInvoke_state]; exact hsteps⟩
theorem vx_callVW (X : Stand p l e R s m args below meth c T locs cells slots) (hexec : p.tables.exec = Jvm.exec) {own C : String} {index : Nat} {y : MethodName} {bytes : ByteArray} {maxL : Nat} {ret : Option FieldType} {hh : List (Nat × Nat × Nat × Nat)}
    (hown : s.vm.findClass own = some m.cls) (hlink : (Cond.methodLink own index y).before args s = true) (hinst : (Cond.instanceMethod y).before args s = true) (hsel : (Cond.selects C y y).before args s = true)
    (hcode : (Cond.codeWith y bytes maxL ret hh).before args s = true) (hy : y.cls ≠ "java/lang/invoke/MethodHandle" ∧ y.cls ≠ "java/lang/invoke/VarHandle")
    {W9 : Nat} {Pre : Pt → Array Value → Prop} {Post : Pt → Array Value → Option Value → Pt → Prop} (hK : Back l R p e below s args y 3 W9 Pre Post)
    {b : Addr} {cellB : Cell} (hcell : T.heap[b]? = some cellB) (hobj : cellB.vm.isStatics = false) (hcls : s.vm.findClass C = some cellB.cls)
    {g : JFrame} (hg : g.method = m) (hsize : g.locals.size = c.maxLocals) {argsL rest : List Value} (hlen : ∀ sig, parseMethodDescriptor y.desc = some sig → argsL.length = sig.parameters.length)
    (hstack : g.stack = argsL.reverse ++ .ref b :: rest) (hW : 2 * g.monitorRoom + (rest.map fun v => v.category).sum ≤ W9) (hdg : decode c.code g.pc = .ok (.invokevirtual index, 3))
    (hpre : ∀ vm₁, s.WarmedH vm₁ → Pre ⟨T.setVm vm₁, locs, cells, slots⟩ (Value.ref b :: argsL).toArray) :
    ∃ (v : Option Value) (vm₁ : Vm) (B : Pt), s.WarmedH vm₁ ∧ Stand p l e R s m args below meth c B.U B.locs B.cells B.slots ∧ Post ⟨T.setVm vm₁, locs, cells, slots⟩ (Value.ref b :: argsL).toArray v B ∧
      ∀ target, Steps p.tables e below (B.U.setTop { g with pc := g.pc + 3, stack := v.toList ++ rest }) target → Steps p.tables e below (T.setTop g) target := by
  obtain ⟨mk, methM, hnamed, hmethM, hstM, habM⟩ := Cond.instanceMethod_spec hinst
  obtain ⟨m8, methM', cM, hn8, hmethM', -, -, -, -, -, -, hsigM⟩ := Cond.codeWith_spec hcode
  cases Option.some.inj (hn8.symm.trans hnamed)
  cases hmethM.symm.trans hmethM'
  obtain ⟨c2, r2, m2, q1, q2, q3, q4, kP, hkP, hkPi⟩ := Cond.selects_spec hsel
  cases hcls.symm.trans q1
  cases (State.methodFound?_of_named hnamed hy).symm.trans q2
  cases hnamed.symm.trans q3
  have hselP : selectMethod e.platform s.vm cellB.cls mk = .method mk := by rw [Launch.admits_selectMethod X.admits]; exact q4
  obtain ⟨vm₁, X₁, hstep₁⟩ := X.invokevirtual hexec hown hlink hnamed hmethM hstM hkP hkPi hy (a := b) (cell := cellB) hcell
    (fun z h => by rw [h] at hobj; cases hobj) hselP hmethM habM hkP hkPi (g := g) hg (argsL := argsL) (rest := rest) (hlen _ hsigM) hstack hdg
  obtain ⟨v, B, X', hpost, hsteps⟩ := hK m meth c ⟨T.setVm vm₁, locs, cells, slots⟩ { g with stack := rest } (.invokevirtual index) mk (Value.ref b :: argsL).toArray X₁ hg hsize hdg hW (X₁.named hnamed) (hpre vm₁ X₁.warmed)
  exact ⟨v, vm₁, B, X₁.warmed, X', hpost, fun target h => hstep₁ _ fun acts => by rw [doInvoke_state]; exact hsteps.trans h⟩
abbrev vx_CVW (R : Room) (s : State) (args : Array Value) (own C : String) (index : Nat) (y : MethodName) (bytes : ByteArray) (maxL : Nat) (ret : Option FieldType) (hh : List (Nat × Nat × Nat × Nat)) (ws : List Cond) (rm : Room) (mc ms n : Nat) : Prop :=
  (rm.cells = mc ∧ rm.slots = ms ∧ rm.frames + 1 ≤ R.frames ∧ 8 + (maxL + 11) + rm.locals ≤ R.locals ∧ (∀ w ∈ ws, ∀ (a' : Array Value) (U : State), s.WarmedH U.vm → w.before a' U = true) ∧ Cond.codeWith y bytes maxL ret hh ∈ ws) ∧
  (Cond.codeWith y bytes maxL ret hh).before args s = true ∧ (Cond.initialized y.cls).before args s = true ∧ (y.cls ≠ "java/lang/invoke/MethodHandle" ∧ y.cls ≠ "java/lang/invoke/VarHandle") ∧
  (∀ sig, parseMethodDescriptor y.desc = some sig → n = sig.parameters.length) ∧ (Cond.methodLink own index y).before args s = true ∧ (Cond.instanceMethod y).before args s = true ∧ (Cond.selects C y y).before args s = true
theorem vx_cwVW {own C : String} {index maxL mc ms : Nat} {y : MethodName} {bytes : ByteArray} {ret : Option FieldType} {hh : List (Nat × Nat × Nat × Nat)} {Ts ws ws' : List Cond} {rm : Room} (n : Nat) (ht : ∀ w ∈ Ts, w.before args s = true) (hT : GoodIn Ts (wsV own index C y ws)) (hw : ws = Cond.codeWith y bytes maxL ret hh :: ws') (hrc : rm.cells = mc) (hrs : rm.slots = ms)
    (hd : y.cls = C ∧ y.cls ≠ "java/lang/invoke/MethodHandle" ∧ y.cls ≠ "java/lang/invoke/VarHandle" ∧ (parseMethodDescriptor y.desc).map (fun d => d.parameters.length) = some n) (hR : rm.frames + 1 ≤ R.frames ∧ 8 + (maxL + 11) + rm.locals ≤ R.locals) :
    vx_CVW R s args own C index y bytes maxL ret hh ws rm mc ms n := by
  obtain ⟨hC, hd⟩ := hd
  subst hC
  have ok : ∀ w ∈ wsV own index y.cls y ws, w.before args s = true := fun w h => ht w (hT w h).1
  have hG : GoodIn Ts ws := fun w h => hT w (by unfold wsV; exact List.mem_append_right _ h)
  have hc : Cond.codeWith y bytes maxL ret hh ∈ ws := by rw [hw]; exact List.mem_cons_self
  refine ⟨⟨hrc, hrs, hR.1, hR.2, pay_in ht hG, hc⟩, ht _ (hG _ hc).1, ok _ (by simp [wsV]), ⟨hd.1, hd.2.1⟩, fun sig h => ?_, ok _ (by simp [wsV]), ok _ (by simp [wsV]), ok _ (by simp [wsV])⟩
  have h2 := hd.2.2
  rw [h] at h2
  exact (Option.some.inj h2).symm
theorem vx_runVW {y : MethodName} {bytes cc : ByteArray} {maxL nL mc ms n index : Nat} {ret : Option FieldType} {hh : List (Nat × Nat × Nat × Nat)} {ws : List Cond} {rm : Room} {Pc : Array Value → State → Prop} {Qc : Array Value → State → Outcome → State → Prop} {free : Addr → Prop} {Ts : List Cond} {own C : String} {b : Addr} {As rest : List Value} {g : JFrame}
    (S : CallFix p m c cc nL s args Ts own) (hM : Met l y ws rm Pc Qc mc ms free) (cw : vx_CVW R s args own C index y bytes maxL ret hh ws rm mc ms n) (hp : PreV s H C b Pc As)
    (hg : g.method = m) (hn : As.length = n) (hsize : g.locals.size = nL) (hstack : g.stack = As.reverse ++ .ref b :: rest) (hW : 2 * g.monitorRoom + (rest.map fun v => v.category).sum ≤ 8) (hdg : decode cc g.pc = .ok (.invokevirtual index, 3)) (hf : cells + mc ≤ R.cells ∧ slots + ms ≤ R.slots) :
    va_Run p l e R s m args below meth c H locs cells slots mc ms g rest (Qc (Value.ref b :: As).toArray) free := by
  obtain ⟨⟨hrc, hrs, hfr, hlo, hws, hcw⟩, hcode, hini, hy, hlen, hl, hin, hse⟩ := cw
  have hK : Back l R p e below s args y 3 8 (PreOf R mc ms Pc) (PostOf Qc mc ms free) := va_backW (hh := hh) (bytes := bytes) (maxL := maxL) (ret := ret) hM hp.1 hrc hrs hfr hlo hws hcw (fun a' U hW => word_at hW (Or.inl (by first | rfl | simp [Cond.onTables, Cond.keeps, Cond.steady])) hini)
  obtain ⟨hx, hb, hml, ho, -⟩ := S
  obtain ⟨-, ⟨cellB, hcB, hoB, hclB⟩, hPc⟩ := hp
  intro T hT X
  obtain ⟨v, vm₁, ⟨U', l2, c2, s2⟩, hW₁, X', ⟨g', mk, t, L, e1, e2, hq, h1, hL, h2, h3⟩, st⟩ := vx_callVW X hx (C := C) (hh := hh) (bytes := bytes) (maxL := maxL) (ret := ret) ho hl hin hse hcode hy hK (by rw [hT]; exact hcB) hoB hclB hg (hsize.trans hml.symm) (argsL := As) (rest := rest) (fun sig h => hn.trans (hlen sig h)) hstack hW (by rw [hb]; exact hdg)
    (fun vm₁ hW₁ => ⟨hf.1, hf.2, hPc (T.setVm vm₁) hT hW₁⟩)
  dsimp only [Pt.U, Pt.locs, Pt.cells, Pt.slots] at X' e1 e2 h1 h2 h3 st
  subst h1; subst h2; subst h3
  exact ⟨v, (T.setVm vm₁).calling g' mk (Value.ref b :: As).toArray, t, U', L, hT, X', hL, e1, e2, hq, st⟩
section
variable {y : MethodName} {bytes cc : ByteArray} {maxL nL mc ms n index : Nat} {ret : Option FieldType} {ws : List Cond} {rm : Room} {Pc : Array Value → State → Prop} {Qc : Array Value → State → Outcome → State → Prop} {XC : String → State → State → Prop} {free : Addr → Prop} {Ts : List Cond} {own C : String} {b : Addr} {As rest : List Value} {g : JFrame}
theorem vx_runVX {hh : List (Nat × Nat × Nat × Nat)} (S : CallFix p m c cc nL s args Ts own) (hM : vx_Met l y ws rm Pc Qc XC mc ms free) (cw : vx_CVW R s args own C index y bytes maxL ret hh ws rm mc ms n) (hp : PreV s H C b Pc As)
    (hg : g.method = m) (hn : As.length = n) (hsize : g.locals.size = nL) (hstack : g.stack = As.reverse ++ .ref b :: rest) (hW : 2 * g.monitorRoom + (rest.map fun v => v.category).sum ≤ 8) (hdg : decode cc g.pc = .ok (.invokevirtual index, 3)) (hf : cells + mc ≤ R.cells ∧ slots + ms ≤ R.slots) :
    vx_Run p l e R s m args below meth c H locs cells slots mc ms g rest (Qc (Value.ref b :: As).toArray) XC free := by
  obtain ⟨⟨hrc, hrs, hfr, hlo, hws, hcw⟩, hcode, hini, hy, hlen, hl, hin, hse⟩ := cw
  have hK : vx_Back l R p e below s args y 3 8 (PreOf R mc ms Pc) (PostOf Qc mc ms free) (vx_Post XC mc ms free) := vx_backW (hh := hh) (bytes := bytes) (maxL := maxL) (ret := ret) hM hp.1 hrc hrs hfr hlo hws hcw (fun a' U hW => word_at hW (Or.inl (by first | rfl | simp [Cond.onTables, Cond.keeps, Cond.steady])) hini)
  obtain ⟨hx, hb, hml, ho, -⟩ := S
  obtain ⟨-, ⟨cellB, hcB, hoB, hclB⟩, hPc⟩ := hp
  intro T hT X
  rcases vx_callVX X hx (C := C) (hh := hh) (bytes := bytes) (maxL := maxL) (ret := ret) ho hl hin hse hcode hy hK (by rw [hT]; exact hcB) hoB hclB hg (hsize.trans hml.symm) (argsL := As) (rest := rest) (fun sig h => hn.trans (hlen sig h)) hstack hW (by rw [hb]; exact hdg)
    (fun vm₁ hW₁ => ⟨hf.1, hf.2, hPc (T.setVm vm₁) hT hW₁⟩) with ⟨v, vm₁, ⟨U', l2, c2, s2⟩, hW₁, X', ⟨g', mk, t, L, e1, e2, hq, h1, hL, h2, h3⟩, st⟩ | ⟨q, vm₁, ⟨U', l2, c2, s2⟩, hW₁, X', ⟨g', mk, t, L, E, ce, e1, e2, hq, hce, hcv, hcl, h1, hL, h2, h3⟩, st⟩
  · dsimp only [Pt.U, Pt.locs, Pt.cells, Pt.slots] at X' e1 e2 h1 h2 h3 st
    subst h1; subst h2; subst h3
    exact Or.inl ⟨v, (T.setVm vm₁).calling g' mk (Value.ref b :: As).toArray, t, U', L, hT, X', hL, e1, e2, hq, st⟩
  · dsimp only [Pt.U, Pt.locs, Pt.cells, Pt.slots] at X' e1 e2 h1 h2 h3 st hcl
    subst h1; subst h2; subst h3
    exact Or.inr ⟨q, (T.setVm vm₁).calling g' mk (Value.ref b :: As).toArray, t, U', L, E, ce, hT, X', hL, e1, e2, hq, hce, hcv, vx_cls hW₁ hcl, st⟩
theorem vx_runSX {hh : List (Nat × Nat × Nat × Nat)} (S : CallFix p m c cc nL s args Ts own) (hM : vx_Met l y ws rm Pc Qc XC mc ms free) (cw : vx_CSW R s args own index y bytes maxL ret hh ws rm mc ms n) (hp : PreS s H Pc As)
    (hg : g.method = m) (hn : As.length = n) (hsize : g.locals.size = nL) (hstack : g.stack = As.reverse ++ rest) (hW : 2 * g.monitorRoom + (rest.map fun v => v.category).sum ≤ 8) (hdg : decode cc g.pc = .ok (.invokestatic index, 3)) (hf : cells + mc ≤ R.cells ∧ slots + ms ≤ R.slots) :
    vx_Run p l e R s m args below meth c H locs cells slots mc ms g rest (Qc As.toArray) XC free := by
  obtain ⟨⟨hrc, hrs, hfr, hlo, hws, hcw⟩, hcode, hini, hy, hlen, hl, hstt⟩ := cw
  have hK : vx_Back l R p e below s args y 3 8 (PreOf R mc ms Pc) (PostOf Qc mc ms free) (vx_Post XC mc ms free) := vx_backW (hh := hh) (bytes := bytes) (maxL := maxL) (ret := ret) hM hp.1 hrc hrs hfr hlo hws hcw (fun a' U hW => word_at hW (Or.inl (by first | rfl | simp [Cond.onTables, Cond.keeps, Cond.steady])) hini)
  obtain ⟨hx, hb, hml, ho, -⟩ := S
  intro T hT X
  rcases vx_callSX X hx (hh := hh) (bytes := bytes) (maxL := maxL) (ret := ret) ho hl hstt hini hcode hy hK hg (hsize.trans hml.symm) (argsL := As) (rest := rest) (fun sig h => hn.trans (hlen sig h)) hstack hW (by rw [hb]; exact hdg)
    (fun vm₁ hW₁ => ⟨hf.1, hf.2, hp.2 (T.setVm vm₁) hT hW₁⟩) with ⟨v, vm₁, ⟨U', l2, c2, s2⟩, hW₁, X', ⟨g', mk, t, L, e1, e2, hq, h1, hL, h2, h3⟩, st⟩ | ⟨q, vm₁, ⟨U', l2, c2, s2⟩, hW₁, X', ⟨g', mk, t, L, E, ce, e1, e2, hq, hce, hcv, hcl, h1, hL, h2, h3⟩, st⟩
  · dsimp only [Pt.U, Pt.locs, Pt.cells, Pt.slots] at X' e1 e2 h1 h2 h3 st
    subst h1; subst h2; subst h3
    exact Or.inl ⟨v, (T.setVm vm₁).calling g' mk As.toArray, t, U', L, hT, X', hL, e1, e2, hq, st⟩
  · dsimp only [Pt.U, Pt.locs, Pt.cells, Pt.slots] at X' e1 e2 h1 h2 h3 st hcl
    subst h1; subst h2; subst h3
    exact Or.inr ⟨q, (T.setVm vm₁).calling g' mk As.toArray, t, U', L, E, ce, hT, X', hL, e1, e2, hq, hce, hcv, vx_cls hW₁ hcl, st⟩
end
end VXH
theorem vx_ofWH {l : Launch} {y : MethodName} {ws ws' : List Cond} {rm : Room} {Pc : Array Value → State → Prop} {Qc : Array Value → State → Outcome → State → Prop} {XC : String → State → State → Prop} {mc ms : Nat} {free : Addr → Prop} {cc : ByteArray} {maxL : Nat} {ret : Option FieldType} {hh : List (Nat × Nat × Nat × Nat)}
    (hy : plainName y.cls = true) (hw : ws = Cond.codeWith y cc maxL ret hh :: ws')
    (body : ∀ p e s m args below meth c s₁, BodyLoose p l y (headSpec ws rm) cc maxL ret e s m args below meth c s₁ → c.maxLocals = maxL → Pc args s →
      W p l e (headSpec ws rm).room s m args below meth c s.heap [] 0 0 (vx_MQ below Qc XC args s mc ms free) (entryFrame m args maxL)) : vx_Met l y ws rm Pc Qc XC mc ms free := by
  refine MetFree.of_bodyS (code := cc) (maxLocals := maxL) (ret := ret) hy ?_ ?_
  · intro args s m h hn
    obtain ⟨m9, meth, c, hn9, h1, h2, h3, h4, -, h5, h6, -⟩ := Cond.codeWith_spec (atoms_spec (ws := ws) h _ (by rw [hw]; exact List.mem_cons_self))
    cases hn.symm.trans hn9
    exact ⟨meth, c, h1, h2, h3, h4, h5, h6⟩
  · intro p e s m args below meth c s₁ B hml hP _
    have hh0 : s₁.heap = s.heap := by rw [B.state]; rfl
    obtain ⟨t, a1, o, b1, b2, b3⟩ := body p e s m args below meth c s₁ B hml hP s₁ hh0 (Stand.of_body B)
    exact ⟨t, o, a1, b1, b2, b3⟩
/-! ===== END ===== -/
end
section
/-! ===== BEGIN printed: names, fields, word lists, decode rows ===== -/
def RX0 : String := "BottlePyramid$Grammar"
def TX0 : u_T := fun k => match k with
  | _ => ("", "", "", false)
def tyX0 : Nat → FieldType := fun k => match k with
  | _ => .int
abbrev wsX00 : List Cond := u_ws RX0 TX0 0
theorem nmX0 : ∀ a, a < 0 → ∀ b, b < 0 → a ≠ b → (TX0 a).2.1 ≠ (TX0 b).2.1 := by decide +kernel
theorem tyX0_ok : ∀ k, k < 0 → parseFieldDescriptor (TX0 k).2.2.1 = some (tyX0 k) := by decide +kernel
def RX1 : String := "BottlePyramid$Pile"
def TX1 : u_T := fun k => match k with
  | _ => ("", "", "", false)
def tyX1 : Nat → FieldType := fun k => match k with
  | _ => .int
abbrev wsX10 : List Cond := u_ws RX1 TX1 0
theorem nmX1 : ∀ a, a < 0 → ∀ b, b < 0 → a ≠ b → (TX1 a).2.1 ≠ (TX1 b).2.1 := by decide +kernel
theorem tyX1_ok : ∀ k, k < 0 → parseFieldDescriptor (TX1 k).2.2.1 = some (tyX1 k) := by decide +kernel
abbrev cX1_bit : ByteArray := prog_3_method_2_code
def yX1_bit : MethodName := ⟨RX1, "bit", "(II)I"⟩
abbrev cX1_bitsOf : ByteArray := prog_3_method_3_code
def yX1_bitsOf : MethodName := ⟨RX1, "bitsOf", "(II)I"⟩
abbrev cX1_hasBottle : ByteArray := prog_3_method_4_code
def yX1_hasBottle : MethodName := ⟨RX1, "hasBottle", "(III)Z"⟩
abbrev cX1_hasRoom : ByteArray := prog_3_method_5_code
def yX1_hasRoom : MethodName := ⟨RX1, "hasRoom", "(III)Z"⟩
abbrev cX1_settled : ByteArray := prog_3_method_6_code
def yX1_settled : MethodName := ⟨RX1, "settled", "(I)I"⟩
abbrev cX1_mirrored : ByteArray := prog_3_method_7_code
def yX1_mirrored : MethodName := ⟨RX1, "mirrored", "(I)I"⟩
abbrev cX1_robbed : ByteArray := prog_3_method_8_code
def yX1_robbed : MethodName := ⟨RX1, "robbed", "(IIII)I"⟩
abbrev cX1_fallenBy : ByteArray := prog_3_method_9_code
def yX1_fallenBy : MethodName := ⟨RX1, "fallenBy", "(IIII)I"⟩
abbrev cX1_allShapes : ByteArray := prog_3_method_10_code
def yX1_allShapes : MethodName := ⟨RX1, "allShapes", "()[I"⟩
abbrev cX1_addShapes : ByteArray := prog_3_method_11_code
def yX1_addShapes : MethodName := ⟨RX1, "addShapes", "([IIII)I"⟩
def RX2 : String := "BottlePyramid$Play"
def TX2 : u_T := fun k => match k with
  | 0 => ("BottlePyramid$Play", "shapes", "[I", true)
  | 1 => ("BottlePyramid$Play", "most", "I", true)
  | 2 => ("BottlePyramid$Play", "barring", "Z", true)
  | 3 => ("BottlePyramid$Play", "wonWhenOver", "Z", true)
  | 4 => ("BottlePyramid$Play", "won", "[Z", true)
  | 5 => ("BottlePyramid$Play", "longest", "[I", true)
  | _ => ("BottlePyramid$Play", "shortest", "[I", true)
def tyX2 : Nat → FieldType := fun k => match k with
  | 0 => .array .int
  | 1 => .int
  | 2 => .boolean
  | 3 => .boolean
  | 4 => .array .boolean
  | 5 => .array .int
  | _ => .array .int
abbrev wsX20 : List Cond := u_ws RX2 TX2 7
theorem nmX2 : ∀ a, a < 7 → ∀ b, b < 7 → a ≠ b → (TX2 a).2.1 ≠ (TX2 b).2.1 := by decide +kernel
theorem tyX2_ok : ∀ k, k < 7 → parseFieldDescriptor (TX2 k).2.2.1 = some (tyX2 k) := by decide +kernel
abbrev cX2_init : ByteArray := prog_4_method_1_code
def yX2_init : MethodName := ⟨RX2, "<init>", "([IIZZ)V"⟩
abbrev cX2_playOut : ByteArray := prog_4_method_2_code
def yX2_playOut : MethodName := ⟨RX2, "playOut", "(II)V"⟩
abbrev cX2_slotBehind : ByteArray := prog_4_method_3_code
def yX2_slotBehind : MethodName := ⟨RX2, "slotBehind", "(IIII)I"⟩
abbrev cX2_slotOf : ByteArray := prog_4_method_4_code
def yX2_slotOf : MethodName := ⟨RX2, "slotOf", "(II)I"⟩
abbrev cX2_isWonBy : ByteArray := prog_4_method_5_code
def yX2_isWonBy : MethodName := ⟨RX2, "isWonBy", "(II)Z"⟩
abbrev cX2_longestGame : ByteArray := prog_4_method_6_code
def yX2_longestGame : MethodName := ⟨RX2, "longestGame", "(II)I"⟩
abbrev cX2_shortestGame : ByteArray := prog_4_method_7_code
def yX2_shortestGame : MethodName := ⟨RX2, "shortestGame", "(II)I"⟩
abbrev cX2_shapesWonBy : ByteArray := prog_4_method_8_code
def yX2_shapesWonBy : MethodName := ⟨RX2, "shapesWonBy", "(I)I"⟩
abbrev cX2_shapesOver : ByteArray := prog_4_method_9_code
def yX2_shapesOver : MethodName := ⟨RX2, "shapesOver", "()I"⟩
def RX3 : String := "BottlePyramid"
def TX3 : u_T := fun k => match k with
  | 0 => ("BottlePyramid", "now", "[I", true)
  | 1 => ("BottlePyramid", "saved", "[I", true)
  | 2 => ("BottlePyramid", "savedStates", "I", false)
  | 3 => ("BottlePyramid", "snapshot", "[I", true)
  | 4 => ("BottlePyramid", "hasSnapshot", "Z", false)
  | 5 => ("BottlePyramid", "typed", "[C", true)
  | 6 => ("BottlePyramid", "typedLength", "I", false)
  | 7 => ("BottlePyramid", "shapes", "[I", true)
  | _ => ("BottlePyramid", "plays", "[LBottlePyramid$Play;", true)
def tyX3 : Nat → FieldType := fun k => match k with
  | 0 => .array .int
  | 1 => .array .int
  | 2 => .int
  | 3 => .array .int
  | 4 => .boolean
  | 5 => .array .char
  | 6 => .int
  | 7 => .array .int
  | _ => .array (.object "BottlePyramid$Play")
abbrev wsX30 : List Cond := u_ws RX3 TX3 9
theorem nmX3 : ∀ a, a < 9 → ∀ b, b < 9 → a ≠ b → (TX3 a).2.1 ≠ (TX3 b).2.1 := by decide +kernel
theorem tyX3_ok : ∀ k, k < 9 → parseFieldDescriptor (TX3 k).2.2.1 = some (tyX3 k) := by decide +kernel
abbrev cX3_init : ByteArray := prog_1_method_1_code
def yX3_init : MethodName := ⟨RX3, "<init>", "()V"⟩
abbrev cX3_take : ByteArray := prog_1_method_2_code
def yX3_take : MethodName := ⟨RX3, "take", "(II)I"⟩
abbrev cX3_turn : ByteArray := prog_1_method_3_code
def yX3_turn : MethodName := ⟨RX3, "turn", "(I)I"⟩
abbrev cX3_knock : ByteArray := prog_1_method_4_code
def yX3_knock : MethodName := ⟨RX3, "knock", "(II)I"⟩
abbrev cX3_put : ByteArray := prog_1_method_5_code
def yX3_put : MethodName := ⟨RX3, "put", "(II)I"⟩
abbrev cX3_mirror : ByteArray := prog_1_method_6_code
def yX3_mirror : MethodName := ⟨RX3, "mirror", "()I"⟩
abbrev cX3_refill : ByteArray := prog_1_method_7_code
def yX3_refill : MethodName := ⟨RX3, "refill", "()I"⟩
abbrev cX3_set : ByteArray := prog_1_method_8_code
def yX3_set : MethodName := ⟨RX3, "set", "(II)I"⟩
abbrev cX3_keep : ByteArray := prog_1_method_13_code
def yX3_keep : MethodName := ⟨RX3, "keep", "()I"⟩
abbrev cX3_goBack : ByteArray := prog_1_method_14_code
def yX3_goBack : MethodName := ⟨RX3, "goBack", "()I"⟩
abbrev cX3_undo : ByteArray := prog_1_method_15_code
def yX3_undo : MethodName := ⟨RX3, "undo", "()I"⟩
abbrev cX3_row : ByteArray := prog_1_method_16_code
def yX3_row : MethodName := ⟨RX3, "row", "(II)I"⟩
abbrev cX3_count : ByteArray := prog_1_method_17_code
def yX3_count : MethodName := ⟨RX3, "count", "(I)I"⟩
abbrev cX3_setting : ByteArray := prog_1_method_18_code
def yX3_setting : MethodName := ⟨RX3, "setting", "(I)I"⟩
abbrev cX3_why : ByteArray := prog_1_method_19_code
def yX3_why : MethodName := ⟨RX3, "why", "(II)I"⟩
abbrev cX3_falls : ByteArray := prog_1_method_20_code
def yX3_falls : MethodName := ⟨RX3, "falls", "(II)I"⟩
abbrev cX3_wins : ByteArray := prog_1_method_21_code
def yX3_wins : MethodName := ⟨RX3, "wins", "(I)I"⟩
abbrev cX3_best : ByteArray := prog_1_method_22_code
def yX3_best : MethodName := ⟨RX3, "best", "()I"⟩
abbrev cX3_length : ByteArray := prog_1_method_23_code
def yX3_length : MethodName := ⟨RX3, "length", "(I)I"⟩
abbrev cX3_pyramids : ByteArray := prog_1_method_24_code
def yX3_pyramids : MethodName := ⟨RX3, "pyramids", "(I)I"⟩
abbrev cX3_brokenShare : ByteArray := prog_1_method_25_code
def yX3_brokenShare : MethodName := ⟨RX3, "brokenShare", "()D"⟩
abbrev cX3_wonShare : ByteArray := prog_1_method_26_code
def yX3_wonShare : MethodName := ⟨RX3, "wonShare", "()F"⟩
abbrev cX3_isRow : ByteArray := prog_1_method_28_code
def yX3_isRow : MethodName := ⟨RX3, "isRow", "(I)Z"⟩
abbrev cX3_isPlace : ByteArray := prog_1_method_29_code
def yX3_isPlace : MethodName := ⟨RX3, "isPlace", "(II)Z"⟩
abbrev cX3_isSetting : ByteArray := prog_1_method_30_code
def yX3_isSetting : MethodName := ⟨RX3, "isSetting", "(I)Z"⟩
abbrev cX3_save : ByteArray := prog_1_method_31_code
def yX3_save : MethodName := ⟨RX3, "save", "()V"⟩
abbrev cX3_isBarring : ByteArray := prog_1_method_32_code
def yX3_isBarring : MethodName := ⟨RX3, "isBarring", "()Z"⟩
abbrev cX3_reasonAgainst : ByteArray := prog_1_method_33_code
def yX3_reasonAgainst : MethodName := ⟨RX3, "reasonAgainst", "(II)I"⟩
abbrev cX3_maskBehind : ByteArray := prog_1_method_34_code
def yX3_maskBehind : MethodName := ⟨RX3, "maskBehind", "(II)I"⟩
abbrev cX3_steal : ByteArray := prog_1_method_35_code
def yX3_steal : MethodName := ⟨RX3, "steal", "(II)I"⟩
abbrev cX3_knockOut : ByteArray := prog_1_method_36_code
def yX3_knockOut : MethodName := ⟨RX3, "knockOut", "(II)I"⟩
abbrev cX3_letFall : ByteArray := prog_1_method_37_code
def yX3_letFall : MethodName := ⟨RX3, "letFall", "(I)I"⟩
abbrev cX3_addBottle : ByteArray := prog_1_method_38_code
def yX3_addBottle : MethodName := ⟨RX3, "addBottle", "(II)I"⟩
abbrev cX3_swapSides : ByteArray := prog_1_method_39_code
def yX3_swapSides : MethodName := ⟨RX3, "swapSides", "()I"⟩
abbrev cX3_fillUp : ByteArray := prog_1_method_40_code
def yX3_fillUp : MethodName := ⟨RX3, "fillUp", "()I"⟩
abbrev cX3_lowestPlace : ByteArray := prog_1_method_44_code
def yX3_lowestPlace : MethodName := ⟨RX3, "lowestPlace", "(I)I"⟩
abbrev cX3_highestPlace : ByteArray := prog_1_method_45_code
def yX3_highestPlace : MethodName := ⟨RX3, "highestPlace", "(I)I"⟩
abbrev cX3_greatestTheft : ByteArray := prog_1_method_46_code
def yX3_greatestTheft : MethodName := ⟨RX3, "greatestTheft", "(I)I"⟩
abbrev cX3_brokenInAll : ByteArray := prog_1_method_47_code
def yX3_brokenInAll : MethodName := ⟨RX3, "brokenInAll", "()I"⟩
abbrev cX3_possibleThefts : ByteArray := prog_1_method_48_code
def yX3_possibleThefts : MethodName := ⟨RX3, "possibleThefts", "()I"⟩
abbrev cX3_winner : ByteArray := prog_1_method_49_code
def yX3_winner : MethodName := ⟨RX3, "winner", "()I"⟩
abbrev cX3_play : ByteArray := prog_1_method_50_code
def yX3_play : MethodName := ⟨RX3, "play", "()LBottlePyramid$Play;"⟩
def RX4 : String := "BottlePyramidModel"
def TX4 : u_T := fun k => match k with
  | _ => ("", "", "", false)
def tyX4 : Nat → FieldType := fun k => match k with
  | _ => .int
abbrev wsX40 : List Cond := u_ws RX4 TX4 0
theorem nmX4 : ∀ a, a < 0 → ∀ b, b < 0 → a ≠ b → (TX4 a).2.1 ≠ (TX4 b).2.1 := by decide +kernel
theorem tyX4_ok : ∀ k, k < 0 → parseFieldDescriptor (TX4 k).2.2.1 = some (tyX4 k) := by decide +kernel
def RJ6 : String := "java/lang/Integer"
def TJ6 : u_T := fun k => match k with
  | _ => ("", "", "", false)
def tyJ6 : Nat → FieldType := fun k => match k with
  | _ => .int
abbrev wsJ60 : List Cond := u_ws RJ6 TJ6 0
theorem nmJ6 : ∀ a, a < 0 → ∀ b, b < 0 → a ≠ b → (TJ6 a).2.1 ≠ (TJ6 b).2.1 := by decide +kernel
theorem tyJ6_ok : ∀ k, k < 0 → parseFieldDescriptor (TJ6 k).2.2.1 = some (tyJ6 k) := by decide +kernel
abbrev cJ6_bitCount_0f7a4 : ByteArray := prog_11_method_49_code
def yJ6_bitCount_0f7a4 : MethodName := ⟨RJ6, "bitCount", "(I)I"⟩
def RJ9 : String := "java/lang/Math"
def TJ9 : u_T := fun k => match k with
  | _ => ("", "", "", false)
def tyJ9 : Nat → FieldType := fun k => match k with
  | _ => .int
abbrev wsJ90 : List Cond := u_ws RJ9 TJ9 0
theorem nmJ9 : ∀ a, a < 0 → ∀ b, b < 0 → a ≠ b → (TJ9 a).2.1 ≠ (TJ9 b).2.1 := by decide +kernel
theorem tyJ9_ok : ∀ k, k < 0 → parseFieldDescriptor (TJ9 k).2.2.1 = some (tyJ9 k) := by decide +kernel
abbrev cJ9_max_7cf53 : ByteArray := prog_12_method_65_code
def yJ9_max_7cf53 : MethodName := ⟨RJ9, "max", "(II)I"⟩
abbrev cJ9_min_7cf53 : ByteArray := prog_12_method_69_code
def yJ9_min_7cf53 : MethodName := ⟨RJ9, "min", "(II)I"⟩
def RJ0 : String := "java/lang/String"
def TJ0 : u_T := fun k => match k with
  | _ => ("", "", "", false)
def tyJ0 : Nat → FieldType := fun k => match k with
  | _ => .int
abbrev wsJ00 : List Cond := u_ws RJ0 TJ0 0
theorem nmJ0 : ∀ a, a < 0 → ∀ b, b < 0 → a ≠ b → (TJ0 a).2.1 ≠ (TJ0 b).2.1 := by decide +kernel
theorem tyJ0_ok : ∀ k, k < 0 → parseFieldDescriptor (TJ0 k).2.2.1 = some (tyJ0 k) := by decide +kernel
def RJ10 : String := "java/lang/System"
def TJ10 : u_T := fun k => match k with
  | _ => ("", "", "", false)
def tyJ10 : Nat → FieldType := fun k => match k with
  | _ => .int
abbrev wsJ100 : List Cond := u_ws RJ10 TJ10 0
theorem nmJ10 : ∀ a, a < 0 → ∀ b, b < 0 → a ≠ b → (TJ10 a).2.1 ≠ (TJ10 b).2.1 := by decide +kernel
theorem tyJ10_ok : ∀ k, k < 0 → parseFieldDescriptor (TJ10 k).2.2.1 = some (tyJ10 k) := by decide +kernel
def RL : String := "BottlePyramidLaw"
abbrev cL_cell : ByteArray := method_2_code
def yL_cell : MethodName := ⟨RL, "cell", "([II)I"⟩
abbrev cL_take : ByteArray := method_3_code
def yL_take : MethodName := ⟨RL, "take", "(LBottlePyramid;II)I"⟩
abbrev cL_knock : ByteArray := method_4_code
def yL_knock : MethodName := ⟨RL, "knock", "(LBottlePyramid;II)I"⟩
abbrev cL_put : ByteArray := method_5_code
def yL_put : MethodName := ⟨RL, "put", "(LBottlePyramid;II)I"⟩
abbrev cL_set : ByteArray := method_6_code
def yL_set : MethodName := ⟨RL, "set", "(LBottlePyramid;II)I"⟩
abbrev cL_turn : ByteArray := method_7_code
def yL_turn : MethodName := ⟨RL, "turn", "(LBottlePyramid;I)I"⟩
abbrev cL_goBack : ByteArray := method_8_code
def yL_goBack : MethodName := ⟨RL, "goBack", "(LBottlePyramid;)I"⟩
abbrev cL_undo : ByteArray := method_9_code
def yL_undo : MethodName := ⟨RL, "undo", "(LBottlePyramid;)I"⟩
abbrev cL_act : ByteArray := method_10_code
def yL_act : MethodName := ⟨RL, "act", "(LBottlePyramid;III)I"⟩
abbrev cL_bits : ByteArray := method_11_code
def yL_bits : MethodName := ⟨RL, "bits", "(I)I"⟩
abbrev cL_first : ByteArray := method_12_code
def yL_first : MethodName := ⟨RL, "first", "(I)I"⟩
abbrev cL_isPyramid : ByteArray := method_13_code
def yL_isPyramid : MethodName := ⟨RL, "isPyramid", "(LBottlePyramid;)Z"⟩
abbrev cL_isPlay : ByteArray := method_14_code
def yL_isPlay : MethodName := ⟨RL, "isPlay", "(LBottlePyramid;)Z"⟩
abbrev cL_takes : ByteArray := method_15_code
def yL_takes : MethodName := ⟨RL, "takes", "(LBottlePyramid;II)Z"⟩
abbrev cL_acts : ByteArray := method_16_code
def yL_acts : MethodName := ⟨RL, "acts", "(LBottlePyramid;I)Z"⟩
abbrev cL_law : ByteArray := code
def yL_law : MethodName := ⟨RL, "law", "([I)Z"⟩
end
section
/-! ===== the abstract machine: heaps as lists, references as places, methods as blocks; wpI: what a run of entries asks ===== -/
abbrev xC : Type := Nat × List Int32 × List Value
abbrev xH : Type := List xC
abbrev xL : Type := List (Option Value)
abbrev xE : Type := Instr × Nat × Nat × Nat × Value × List Nat
abbrev xB : Type := Nat × List xE × Nat
/-- a method: name, code, locals, type of its answer, cells and slots that it may make, whether it makes any, blocks -/
abbrev xM : Type := MethodName × ByteArray × Nat × Option FieldType × Nat × Nat × Bool × List xB
abbrev xK : Type := Nat → xL → List Value → xH → Nat → Nat → Prop
abbrev xG0 : Type := xL → List Value → xH → Nat → Nat → Prop
def xlg : xL → Nat → Option Value
  | [], _ => none
  | v :: _, 0 => v
  | _ :: l, n + 1 => xlg l n
def xc1 : Option Value → Option Value
  | some (.long _) => none
  | some (.double _) => none
  | a => a
def xst : xL → Nat → Value → xL
  | [], _, _ => []
  | _ :: l, 0, v => some v :: l
  | a :: l, 1, v => xc1 a :: xst l 0 v
  | a :: l, n + 2, v => a :: xst l (n + 1) v
def xst2 : xL → Nat → Value → xL
  | [], _, _ => []
  | [_], _, _ => []
  | _ :: _ :: l, 0, v => some v :: none :: l
  | a :: l, 1, v => xc1 a :: xst2 l 0 v
  | a :: l, n + 2, v => a :: xst2 l (n + 1) v
def pI (st : List Value) (k : Int32 → List Value → Prop) : Prop := match st with
  | .int x :: r => k x r
  | _ => False
def pJ (st : List Value) (k : Int64 → List Value → Prop) : Prop := match st with
  | .long x :: r => k x r
  | _ => False
def pF (st : List Value) (k : UInt32 → List Value → Prop) : Prop := match st with
  | .float x :: r => k x r
  | _ => False
def pD (st : List Value) (k : UInt64 → List Value → Prop) : Prop := match st with
  | .double x :: r => k x r
  | _ => False
def pR (st : List Value) (k : Nat → List Value → Prop) : Prop := match st with
  | .ref x :: r => k x r
  | _ => False
def pA (st : List Value) (k : Value → List Value → Prop) : Prop := match st with
  | .ref x :: r => k (.ref x) r
  | .null :: r => k .null r
  | _ => False
def p1 (st : List Value) (k : Value → List Value → Prop) : Prop := match st with
  | .int x :: r => k (.int x) r
  | .float x :: r => k (.float x) r
  | .ref x :: r => k (.ref x) r
  | .null :: r => k .null r
  | _ => False
def p0 (st : List Value) (k : Prop) : Prop := match st with
  | [] => k
  | _ => False
def xli (L : xL) (i : Nat) (k : Int32 → Prop) : Prop := match xlg L i with
  | some (.int x) => k x
  | _ => False
def xlj (L : xL) (i : Nat) (k : Int64 → Prop) : Prop := match xlg L i with
  | some (.long x) => k x
  | _ => False
def xlf (L : xL) (i : Nat) (k : UInt32 → Prop) : Prop := match xlg L i with
  | some (.float x) => k x
  | _ => False
def xld (L : xL) (i : Nat) (k : UInt64 → Prop) : Prop := match xlg L i with
  | some (.double x) => k x
  | _ => False
def xla (L : xL) (i : Nat) (k : Value → Prop) : Prop := match xlg L i with
  | some (.ref x) => k (.ref x)
  | some .null => k .null
  | _ => False
/-- the numbers of an array of kind t -/
def xhi (h : xH) (a t : Nat) (k : List Int32 → Prop) : Prop := match h[a]? with
  | some q => bif q.1 == t then k q.2.1 else False
  | none => False
/-- the values of an array or object of kind t -/
def xhv (h : xH) (a t : Nat) (k : List Value → Prop) : Prop := match h[a]? with
  | some q => bif q.1 == t then k q.2.2 else False
  | none => False
/-- the rows that lie outside: 1000 the table ROW_START, 1001 the script -/
def xai (sc : Option (List Int32)) (h : xH) (a : Nat) (k : List Int32 → Prop) : Prop :=
  bif a == 1000 then k [0, 5, 9, 12, 14] else bif a == 1001 then (match sc with | some l => k l | none => False) else xhi h a 0 k
def xal (sc : Option (List Int32)) (h : xH) (a : Nat) (k : Nat → Prop) : Prop :=
  bif a == 1001 then (match sc with | some l => k l.length | none => False) else match h[a]? with
  | some (0, l, _) => k l.length
  | some (1, l, _) => k l.length
  | some (2, l, _) => k l.length
  | some (4, _, l) => k l.length
  | _ => False
def xlong : Value → Int64
  | .long x => x
  | _ => 0
def xrf : Value → Value
  | .ref a => .ref a
  | _ => .null
def xcpy (f g : List Int32) (sp dp n : Nat) : List Int32 := g.take dp ++ ((f.drop sp).take n ++ g.drop (dp + n))
def xpop : Nat → List Value → List Value → (List Value → List Value → Prop) → Prop
  | 0, acc, st, k => k acc st
  | n + 1, acc, v :: st, k => xpop n (v :: acc) st k
  | _ + 1, _, [], _ => False
def xpush : Option Value → List Value → List Value
  | none, st => st
  | some v, st => v :: st
def xsm : List Value → Prop → Prop
  | [], k => k
  | [_], k => k
  | [_, _], k => k
  | [_, _, _], k => k
  | [_, _, _, _], k => k
  | _ :: _ :: _ :: _ :: _ :: _, _ => False
def xhas : xL → Nat → Bool
  | [], _ => false
  | _ :: _, 0 => true
  | _ :: l, n + 1 => xhas l n
def wfv (n : Nat) : Value → Prop
  | .ref a => a < n ∨ 1000 ≤ a
  | _ => True
def xwS (n : Nat) : List Value → Prop
  | [] => True
  | v :: l => wfv n v ∧ xwS n l
def xwL (n : Nat) : xL → Prop
  | [] => True
  | none :: l => xwL n l
  | some v :: l => wfv n v ∧ xwL n l
def xwH (n : Nat) : xH → Prop
  | [] => True
  | q :: h => xwS n q.2.2 ∧ xwH n h
def xfit (n : Nat) (v : Value) (k : Prop) : Prop := match n with
  | 0 => (match v with | .int _ => k | _ => False)
  | 1 => (match v with | .int x => (x = 0 ∨ x = 1) ∧ k | _ => False)
  | 2 => (match v with | .ref _ => k | _ => False)
  | _ => False
def xnew : Nat → Bool
  | 0 => true
  | 1 => true
  | _ + 2 => false
def xdef : Nat → List Value
  | 0 => [.null, .int 0, .int 0, .int 0, .null, .null, .null]
  | _ => [.null, .null, .int 0, .null, .int 0, .null, .int 0, .null, .null]
def xif (op : Jvm.ClassFile.Cond) (x : Int32) (t f : Prop) : Prop := match op with
  | .eq => (x = 0 → t) ∧ (¬ x = 0 → f)
  | .ne => (¬ x = 0 → t) ∧ (x = 0 → f)
  | .lt => (x < 0 → t) ∧ (¬ x < 0 → f)
  | .ge => (0 ≤ x → t) ∧ (¬ 0 ≤ x → f)
  | .gt => (0 < x → t) ∧ (¬ 0 < x → f)
  | .le => (x ≤ 0 → t) ∧ (¬ x ≤ 0 → f)
def xic (op : Jvm.ClassFile.Cond) (x y : Int32) (t f : Prop) : Prop := match op with
  | .eq => (x = y → t) ∧ (¬ x = y → f)
  | .ne => (¬ x = y → t) ∧ (x = y → f)
  | .lt => (x < y → t) ∧ (¬ x < y → f)
  | .ge => (y ≤ x → t) ∧ (¬ y ≤ x → f)
  | .gt => (y < x → t) ∧ (¬ y < x → f)
  | .le => (x ≤ y → t) ∧ (¬ x ≤ y → f)
def xsw (d : Prop) (x : Int32) : Nat → List Prop → Prop
  | _, [] => d
  | lo, t :: ts => (x = nI lo → t) ∧ (¬ x = nI lo → xsw d x (lo + 1) ts)
def xtag : ArrayType → Option (Nat × Bool)
  | .int => some (0, true)
  | .char => some (1, true)
  | .boolean => some (2, true)
  | _ => none
/-- what an answer of a type asks -/
def xret (ret : Option FieldType) (x : Int32) (k : Prop) : Prop := match ret with
  | some .int => k
  | some .boolean => (x = 0 ∨ x = 1) ∧ k
  | _ => False
def xrtl (ret : Option FieldType) (k : Prop) : Prop := match ret with
  | some .long => k
  | _ => False
def xrtf (ret : Option FieldType) (k : Prop) : Prop := match ret with
  | some .float => k
  | _ => False
def xrtd (ret : Option FieldType) (k : Prop) : Prop := match ret with
  | some .double => k
  | _ => False
def xrta (ret : Option FieldType) (k : Prop) : Prop := match ret with
  | some (.object _) => k
  | some (.array _) => k
  | _ => False
def xrtv (ret : Option FieldType) (k : Prop) : Prop := match ret with
  | none => k
  | _ => False
section RXW
variable (sc : Option (List Int32)) (E : Nat → List Value → xH → (Option Value → xH → Prop) → Prop) (ret : Option FieldType) (mc ms : Nat) (al : Bool) (Q : Option Value → xH → Prop) (X : Nat → xH → Prop) (K : xK)
/-- a call: 'own' answers of the callee go on; a callee that makes cells asks that what is at hand lies in the heap -/
def xcall (M : Nat) (tb : List Nat) (args : List Value) (L : xL) (st : List Value) (h : xH) (c s : Nat) (go : xG0) : Prop :=
  xsm st <| match tb with
  | [_] => E M args h (fun v h' => go L (xpush v st) h' c s)
  | [_, k1, k2] => c + k1 ≤ mc ∧ s + k2 ≤ ms ∧ E M args h (fun v h' => go L (xpush v st) h' (c + k1) (s + k2))
  | [_, k1, k2, _] => al = true ∧ c + k1 ≤ mc ∧ s + k2 ≤ ms ∧ xwL h.length L ∧ xwS h.length st ∧ E M args h (fun v h' => go L (xpush v st) h' (c + k1) (s + k2))
  | _ => False
def xop (ins : Instr) (r1 r2 : Nat) (v : Value) (tb : List Nat) (L : xL) (st : List Value) (h : xH) (c s : Nat) (go : xG0) : Prop := match ins with
  | .iconst _ => go L (v :: st) h c s
  | .bipush _ => go L (v :: st) h c s
  | .sipush _ => go L (v :: st) h c s
  | .ldc _ => go L (v :: st) h c s
  | .ldc_w _ => go L (v :: st) h c s
  | .ldc2_w _ => go L (v :: st) h c s
  | .lconst _ => go L (v :: st) h c s
  | .fconst _ => go L (v :: st) h c s
  | .dconst _ => go L (v :: st) h c s
  | .iload_n k => xli L k.val fun x => go L (.int x :: st) h c s
  | .iload k => xli L k fun x => go L (.int x :: st) h c s
  | .lload_n k => xlj L k.val fun x => go L (.long x :: st) h c s
  | .lload k => xlj L k fun x => go L (.long x :: st) h c s
  | .fload_n k => xlf L k.val fun x => go L (.float x :: st) h c s
  | .fload k => xlf L k fun x => go L (.float x :: st) h c s
  | .dload_n k => xld L k.val fun x => go L (.double x :: st) h c s
  | .dload k => xld L k fun x => go L (.double x :: st) h c s
  | .aload_n k => xla L k.val fun x => go L (x :: st) h c s
  | .aload k => xla L k fun x => go L (x :: st) h c s
  | .istore_n k => pI st fun x st => bif xhas L k.val then go (xst L k.val (.int x)) st h c s else False
  | .istore k => pI st fun x st => bif xhas L k then go (xst L k (.int x)) st h c s else False
  | .lstore_n k => pJ st fun x st => bif xhas L (k.val + 1) then go (xst2 L k.val (.long x)) st h c s else False
  | .lstore k => pJ st fun x st => bif xhas L (k + 1) then go (xst2 L k (.long x)) st h c s else False
  | .dstore_n k => pD st fun x st => bif xhas L (k.val + 1) then go (xst2 L k.val (.double x)) st h c s else False
  | .dstore k => pD st fun x st => bif xhas L (k + 1) then go (xst2 L k (.double x)) st h c s else False
  | .fstore k => pF st fun x st => bif xhas L k then go (xst L k (.float x)) st h c s else False
  | .astore_n k => pA st fun x st => bif xhas L k.val then go (xst L k.val x) st h c s else False
  | .astore k => pA st fun x st => bif xhas L k then go (xst L k x) st h c s else False
  | .iinc k _ => xli L k fun x => xli [some v] 0 fun y => bif xhas L k then go (xst L k (.int (x + y))) st h c s else False
  | .iadd => pI st fun y st => pI st fun x st => go L (.int (x + y) :: st) h c s
  | .isub => pI st fun y st => pI st fun x st => go L (.int (x - y) :: st) h c s
  | .imul => pI st fun y st => pI st fun x st => go L (.int (x * y) :: st) h c s
  | .iand => pI st fun y st => pI st fun x st => go L (.int (x &&& y) :: st) h c s
  | .ior => pI st fun y st => pI st fun x st => go L (.int (x ||| y) :: st) h c s
  | .ixor => pI st fun y st => pI st fun x st => go L (.int (x ^^^ y) :: st) h c s
  | .idiv => pI st fun y st => pI st fun x st => ¬ y = 0 ∧ go L (.int (x / y) :: st) h c s
  | .irem => pI st fun y st => pI st fun x st => ¬ y = 0 ∧ go L (.int (x - x / y * y) :: st) h c s
  | .ishl => pI st fun y st => pI st fun x st => go L (.int (x <<< (y &&& 31)) :: st) h c s
  | .ishr => pI st fun y st => pI st fun x st => go L (.int (x >>> (y &&& 31)) :: st) h c s
  | .iushr => pI st fun y st => pI st fun x st => go L (.int (x.toUInt32 >>> (y.toUInt32 &&& Int32.toUInt32 31)).toInt32 :: st) h c s
  | .lshl => pI st fun y st => pJ st fun x st => go L (.long (x <<< (y.toInt64 &&& 63)) :: st) h c s
  | .ladd => pJ st fun y st => pJ st fun x st => go L (.long (x + y) :: st) h c s
  | .lmul => pJ st fun y st => pJ st fun x st => go L (.long (x * y) :: st) h c s
  | .lcmp => pJ st fun y st => pJ st fun x st => go L (.int (lg_cmp x y) :: st) h c s
  | .fcmp op => pF st fun y st => pF st fun x st => go L (.int (Op.cmpValue (FP.fcmp x y) op) :: st) h c s
  | .dcmp op => pD st fun y st => pD st fun x st => go L (.int (Op.cmpValue (FP.dcmp x y) op) :: st) h c s
  | .i2l => pI st fun x st => go L (.long x.toInt64 :: st) h c s
  | .i2f => pI st fun x st => go L (.float (FP.i2f x) :: st) h c s
  | .i2d => pI st fun x st => go L (.double (FP.i2d x) :: st) h c s
  | .i2c => pI st fun x st => go L (.int (x.toUInt32 % 65536).toInt32 :: st) h c s
  | .l2d => pJ st fun x st => go L (.double (FP.l2d x) :: st) h c s
  | .d2l => pD st fun x st => go L (.long (FP.d2l x) :: st) h c s
  | .f2d => pF st fun x st => vf_n64 (FP.f2d x) ∧ go L (.double (FP.f2d x) :: st) h c s
  | .dsub => pD st fun y st => pD st fun x st => vf_n64 (FP.dsub x y) ∧ go L (.double (FP.dsub x y) :: st) h c s
  | .dmul => pD st fun y st => pD st fun x st => vf_n64 (FP.dmul x y) ∧ go L (.double (FP.dmul x y) :: st) h c s
  | .ddiv => pD st fun y st => pD st fun x st => vf_n64 (FP.ddiv x y) ∧ go L (.double (FP.ddiv x y) :: st) h c s
  | .fdiv => pF st fun y st => pF st fun x st => vf_n32 (FP.fdiv x y) ∧ go L (.float (FP.fdiv x y) :: st) h c s
  | .dup => p1 st fun x st => go L (x :: x :: st) h c s
  | .pop => p1 st fun _ st => go L st h c s
  | .dup2 => p1 st fun x st => p1 st fun y st => go L (x :: y :: x :: y :: st) h c s
  | .goto _ => K r1 L st h c s
  | .ifCond op _ => pI st fun x st => xif op x (K r1 L st h c s) (go L st h c s)
  | .if_icmp op _ => pI st fun y st => pI st fun x st => xic op x y (K r1 L st h c s) (go L st h c s)
  | .ifnonnull _ => pA st fun x st => (x = .null → go L st h c s) ∧ (¬ x = .null → K r1 L st h c s)
  | .tableswitch _ _ _ _ => pI st fun x st => xsw (K r1 L st h c s) x r2 (tb.map fun b => K b L st h c s)
  | .getstatic _ => go L (.ref 1000 :: st) h c s
  | .getfield _ => pR st fun a st => xhv h a (r1 + 5) fun vs => match vs[r2]? with
    | some x => go L (x :: st) h c s
    | none => False
  | .putfield _ => p1 st fun x st => pR st fun a st => xhv h a (r1 + 5) fun vs => match vs[r2]? with
    | some _ => xfit (tb.headD 0) x (go L st (h.set a (r1 + 5, [], vs.set r2 x)) c s)
    | none => False
  | .iaload => pI st fun i st => pR st fun a st => xai sc h a fun l => vp_in i l.length ∧ go L (.int (l.getD i.toNatClampNeg 0) :: st) h c s
  | .caload => pI st fun i st => pR st fun a st => xhi h a 1 fun l => vp_in i l.length ∧ go L (.int (l.getD i.toNatClampNeg 0) :: st) h c s
  | .baload => pI st fun i st => pR st fun a st => xhi h a 2 fun l => vp_in i l.length ∧ go L (.int (l.getD i.toNatClampNeg 0) :: st) h c s
  | .aaload => pI st fun i st => pR st fun a st => xhv h a 4 fun l => vp_in i l.length ∧ go L (xrf (l.getD i.toNatClampNeg .null) :: st) h c s
  | .iastore => pI st fun x st => pI st fun i st => pR st fun a st => xhi h a 0 fun l => vp_in i l.length ∧ go L st (h.set a (0, l.set i.toNatClampNeg x, [])) c s
  | .castore => pI st fun x st => pI st fun i st => pR st fun a st => xhi h a 1 fun l => vp_in i l.length ∧ go L st (h.set a (1, l.set i.toNatClampNeg (vp_nar .char x), [])) c s
  | .bastore => pI st fun x st => pI st fun i st => pR st fun a st => xhi h a 2 fun l => vp_in i l.length ∧ go L st (h.set a (2, l.set i.toNatClampNeg (vp_nar .boolean x), [])) c s
  | .aastore => pR st fun x st => pI st fun i st => pR st fun a st => xhv h a 4 fun l => xhv h x 5 fun _ => vp_in i l.length ∧ go L st (h.set a (4, [], l.set i.toNatClampNeg (.ref x))) c s
  | .arraylength => pR st fun a st => xal sc h a fun n => go L (.int (nI n) :: st) h c s
  | .newarray t => pI st fun n st => ¬ n < 0 ∧ n.toNatClampNeg ≤ 1000000 ∧ al = true ∧ c + 1 ≤ mc ∧ s + n.toNatClampNeg ≤ ms ∧ h.length < 1000 ∧ xwL h.length L ∧ xwS h.length st ∧ xwH h.length h ∧
      match xtag t with
      | some (g, true) => go L (.ref h.length :: st) (h ++ [(g, List.replicate n.toNatClampNeg 0, [])]) (c + 1) (s + n.toNatClampNeg)
      | some (g, false) => go L (.ref h.length :: st) (h ++ [(g, [], List.replicate n.toNatClampNeg (.long 0))]) (c + 1) (s + n.toNatClampNeg)
      | none => False
  | .anewarray _ => pI st fun n st => ¬ n < 0 ∧ n.toNatClampNeg ≤ 1000000 ∧ al = true ∧ c + 1 ≤ mc ∧ s + n.toNatClampNeg ≤ ms ∧ h.length < 1000 ∧ xwL h.length L ∧ xwS h.length st ∧ xwH h.length h ∧
      go L (.ref h.length :: st) (h ++ [(4, [], List.replicate n.toNatClampNeg .null)]) (c + 1) (s + n.toNatClampNeg)
  | .new _ => bif xnew r1 then al = true ∧ c + 1 ≤ mc ∧ s + (xdef r1).length ≤ ms ∧ h.length < 1000 ∧ xwL h.length L ∧ xwS h.length st ∧ xwH h.length h ∧
      go L (.ref h.length :: st) (h ++ [(r1 + 5, [], xdef r1)]) (c + 1) (s + (xdef r1).length)
    else xsm st (c + 1 ≤ mc ∧ s + 6 ≤ ms ∧ X r1 h)
  | .invokestatic _ =>
    bif r1 == 900 then pI st fun n st => pI st fun dp st => pR st fun b st => pI st fun sp st => pR st fun a st => xsm st <| xhi h a 0 fun f => xhi h b 0 fun g =>
      ¬ sp < 0 ∧ ¬ dp < 0 ∧ ¬ n < 0 ∧ sp.toNatClampNeg + n.toNatClampNeg ≤ f.length ∧ dp.toNatClampNeg + n.toNatClampNeg ≤ g.length ∧ go L st (h.set b (0, xcpy f g sp.toNatClampNeg dp.toNatClampNeg n.toNatClampNeg, [])) c s
    else bif r1 == 904 then pD st fun x st => xsm st (go L (.long x.toInt64 :: st) h c s)
    else bif r1 == 905 then pF st fun x st => xsm st (go L (.int x.toInt32 :: st) h c s)
    else xpop r2 [] st fun a st => xcall E mc ms al r1 tb a L st h c s go
  | .invokespecial _ =>
    bif r1 == 901 then pR st fun _ st => xsm st (go L st h c s)
    else xpop r2 [] st fun a st => match a with
      | .ref _ :: _ => xcall E mc ms al r1 tb a L st h c s go
      | _ => False
  | .invokevirtual _ => xpop r2 [] st fun a st => match a with
    | .ref b :: _ => xhv h b (tb.headD 0 + 5) fun _ => xcall E mc ms al r1 tb a L st h c s go
    | _ => False
  | .ireturn => pI st fun x st => p0 st <| xret ret x (c ≤ mc ∧ s ≤ ms ∧ Q (some (.int x)) h)
  | .lreturn => pJ st fun x st => p0 st <| xrtl ret (c ≤ mc ∧ s ≤ ms ∧ Q (some (.long x)) h)
  | .freturn => pF st fun x st => p0 st <| xrtf ret (c ≤ mc ∧ s ≤ ms ∧ Q (some (.float x)) h)
  | .dreturn => pD st fun x st => p0 st <| xrtd ret (c ≤ mc ∧ s ≤ ms ∧ Q (some (.double x)) h)
  | .areturn => pA st fun x st => p0 st <| xrta ret (c ≤ mc ∧ s ≤ ms ∧ Q (some x) h)
  | .return_ => p0 st <| xrtv ret (c ≤ mc ∧ s ≤ ms ∧ Q none h)
  | _ => False
def wpI (nx : Nat) : List xE → xL → List Value → xH → Nat → Nat → Prop
  | [], L, st, h, c, s => K nx L st h c s
  | e :: es, L, st, h, c, s => xop sc E ret mc ms al Q X K e.1 e.2.2.1 e.2.2.2.1 e.2.2.2.2.1 e.2.2.2.2.2 L st h c s (wpI nx es)
end RXW
def xpad (n : Nat) : xL → xL := fun l => l ++ List.replicate (n - l.length) none
def xfl (args : List Value) : xL := args.flatMap fun v => if v.category = 2 then [some v, none] else [some v]
def xent (n : Nat) (args : List Value) : xL := xpad n (xfl args)
/-- a method does: from these arguments and this heap it ends as Q says, or throws as X says; calls at most d deep -/
def Ev (T : List xM) : Nat → Nat → List Value → xH → (Option Value → xH → Prop) → (Nat → xH → Prop) → Prop
  | 0, _, _, _, _, _ => False
  | d + 1, M, args, h, Q, X => ∃ m : xM, T[M]? = some m ∧ (xfl args).length ≤ m.2.2.1 ∧ ∀ (Q' : Option Value → xH → Prop) (X' : Nat → xH → Prop), (∀ v g, Q v g → Q' v g) → (∀ k g, X k g → X' k g) → ∀ K : xK,
      (∀ (b : Nat) (B : xB) (L : xL) (st : List Value) (g : xH) (c s : Nat), m.2.2.2.2.2.2.2[b]? = some B →
        wpI none (fun M' a' h' Q' => Ev T d M' a' h' Q' (fun _ _ => False)) m.2.2.2.1 m.2.2.2.2.1 m.2.2.2.2.2.1 m.2.2.2.2.2.2.1 Q' X' K B.2.2 B.2.1 L st g c s → K b L st g c s) →
      K 0 (xent m.2.2.1 args) [] h 0 0
end
section
/-! ===== how an abstract heap lies in a heap of the machine ===== -/
abbrev xCl : List vw_C := [(RX2, TX2, 7), (RX3, TX3, 9)]
def xTy (ci : Nat) : Nat → FieldType := match ci with
  | 0 => tyX2
  | _ => tyX3
def xTB : List Cond := lw_tbl.filter goodWord
def xNest : List (String × Nat × MethodName × String) :=
  [(RX3, 34, ⟨RX1, "allShapes", "()[I"⟩, RX3), (RX3, 262, ⟨RX1, "mirrored", "(I)I"⟩, RX3), (RX3, 268, ⟨RX2, "<init>", "([IIZZ)V"⟩, RX3),
   (RX2, 53, ⟨RX1, "robbed", "(IIII)I"⟩, RX3), (RX2, 58, ⟨RX1, "settled", "(I)I"⟩, RX3), (RX3, 178, ⟨RX1, "fallenBy", "(IIII)I"⟩, RX3), (RX3, 250, ⟨RX1, "robbed", "(IIII)I"⟩, RX3),
   (RX3, 253, ⟨RX1, "settled", "(I)I"⟩, RX3), (RX3, 186, ⟨RX2, "isWonBy", "(II)Z"⟩, RX3), (RX3, 200, ⟨RX2, "shapesWonBy", "(I)I"⟩, RX3), (RX3, 147, ⟨RX1, "bitsOf", "(II)I"⟩, RX3),
   (RX3, 88, ⟨RX1, "hasBottle", "(III)Z"⟩, RX3), (RX3, 194, ⟨RX2, "longestGame", "(II)I"⟩, RX3), (RX3, 197, ⟨RX2, "shortestGame", "(II)I"⟩, RX3), (RX3, 203, ⟨RX2, "shapesOver", "()I"⟩, RX3),
   (RX3, 259, ⟨RX1, "bit", "(II)I"⟩, RX3), (RX3, 97, ⟨RX1, "hasRoom", "(III)Z"⟩, RX3)]
def xStr : List (Nat × String) :=
  [(176, "what is not 0 to 9"), (55, "there is no such row"), (165, "what is not 0 to 5"), (62, "bottles is out of range"), (80, "thief is out of range"), (192, "what is not 0 or 1"),
   (206, "what is not 0 to 3"), (71, "the theft is not possible"), (86, "there is no such place"), (92, "there is no bottle"), (100, "there is a bottle, or one there would not rest"),
   (115, "there is no such setting"), (117, "value is out of range"), (143, "there is no snapshot"), (145, "there is no saved state")]
def cv (ad : Nat → Nat) : Value → Value
  | .ref a => .ref (ad a)
  | v => v
def xopt (ad : Nat → Nat) : Value → Option Nat
  | .ref a => some (ad a)
  | _ => none
def xe (cy : Nat → ClassId) (ad : Nat → Nat) (q : xC) : va_E := match q.1 with
  | 0 => .inl (cy 0, q.2.1.length, .inl (fun j => q.2.1.getD j 0))
  | 1 => .inl (cy 1, q.2.1.length, .inl (fun j => q.2.1.getD j 0))
  | 2 => .inl (cy 2, q.2.1.length, .inl (fun j => q.2.1.getD j 0))
  | 3 => .inl (cy 3, q.2.2.length, .inr (.inl (fun j => xlong (q.2.2.getD j .null))))
  | 4 => .inl (cy 4, q.2.2.length, .inr (.inr (.inr (.inr (fun j => xopt ad (q.2.2.getD j .null))))))
  | t + 5 => .inr (t, q.2.2.map (cv ad))
def xw (cy : Nat → ClassId) (ad : Nat → Nat) (h : xH) : va_W := h.mapIdx (fun i q => (ad i, xe cy ad q))
def xtys (cy : Nat → ClassId) : List (ClassId × FieldType) := [(cy 0, .int), (cy 1, .char), (cy 2, .boolean), (cy 3, .int), (cy 4, .object RX2)]
def xps (ad : Nat → Nat) (L : xL) : List (Nat × Value) := L.zipIdx.filterMap (fun q => q.1.map (fun v => (q.2, cv ad v)))
theorem cv_cat (ad : Nat → Nat) (v : Value) : (cv ad v).category = v.category := by cases v <;> rfl
theorem xps_mem {ad : Nat → Nat} {L : xL} {j : Nat} {w : Value} : (j, w) ∈ xps ad L ↔ ∃ v, L[j]? = some (some v) ∧ w = cv ad v := by
  unfold xps
  rw [List.mem_filterMap]
  constructor
  · rintro ⟨⟨o, i⟩, hq, he⟩
    have h1 := List.mem_zipIdx_iff_getElem?.mp hq
    cases o with
    | none => simp at he
    | some v =>
      simp only [Option.map_some, Option.some.injEq, Prod.mk.injEq] at he
      obtain ⟨rfl, rfl⟩ := he
      exact ⟨v, h1, rfl⟩
  · rintro ⟨v, h1, rfl⟩
    exact ⟨(some v, j), List.mem_zipIdx_iff_getElem?.mpr h1, rfl⟩
theorem xlg_at : ∀ (L : xL) (i : Nat) (v : Value), xlg L i = some v → L[i]? = some (some v)
  | [], _, _, h => by cases h
  | a :: l, 0, v, h => by
    have h : a = some v := h
    rw [h]; rfl
  | a :: l, n + 1, v, h => by
    rw [List.getElem?_cons_succ]
    exact xlg_at l n v h
theorem xps_at {ad : Nat → Nat} {L : xL} {nL i : Nat} {v : Value} {ls : Array Slot} (hl : lv_has ls nL (xps ad L)) (h : xlg L i = some v) : ls[i]? = some (.val (cv ad v)) :=
  hl.2.2 (i, cv ad v) (xps_mem.mpr ⟨v, xlg_at L i v h, rfl⟩)
theorem lv_less {ls : Array Slot} {nL : Nat} {l l' : List (Nat × Value)} (h : lv_has ls nL l) (hs : ∀ q ∈ l', q ∈ l) : lv_has ls nL l' := ⟨h.1, h.2.1, fun q hq => h.2.2 q (hs q hq)⟩
theorem xc1_some {a : Option Value} {w : Value} (h : xc1 a = some w) : a = some w ∧ ¬ w.category = 2 := by
  cases a with
  | none => cases h
  | some v =>
    cases v <;> first | (cases h; refine ⟨rfl, fun z => ?_⟩; simp [Value.category] at z; done) | (cases h; done)
theorem xst_at : ∀ (L : xL) (i : Nat) (v : Value) (j : Nat) (w : Value), (xst L i v)[j]? = some (some w) → (j = i ∧ w = v) ∨ (j ≠ i ∧ L[j]? = some (some w) ∧ ¬ (j + 1 = i ∧ w.category = 2))
  | [], _, _, _, _, h => by simp [xst] at h
  | a :: l, 0, v, j, w, h => by
    cases j with
    | zero => left; simp [xst] at h; exact ⟨rfl, h.symm⟩
    | succ j => right; exact ⟨by omega, by simpa [xst] using h, by omega⟩
  | a :: l, 1, v, j, w, h => by
    cases j with
    | zero =>
      right
      have h1 : xc1 a = some w := by simpa [xst] using h
      obtain ⟨h2, h3⟩ := xc1_some h1
      exact ⟨by omega, by simp [h2], fun q => h3 q.2⟩
    | succ j =>
      have h1 : (xst l 0 v)[j]? = some (some w) := by simpa [xst] using h
      rcases xst_at l 0 v j w h1 with ⟨e1, e2⟩ | ⟨e1, e2, e3⟩
      · left; exact ⟨by omega, e2⟩
      · right; exact ⟨by omega, by simpa using e2, by omega⟩
  | a :: l, n + 2, v, j, w, h => by
    cases j with
    | zero =>
      right
      have h1 : a = some w := by simpa [xst] using h
      exact ⟨by omega, by simp [h1], by omega⟩
    | succ j =>
      have h1 : (xst l (n + 1) v)[j]? = some (some w) := by simpa [xst] using h
      rcases xst_at l (n + 1) v j w h1 with ⟨e1, e2⟩ | ⟨e1, e2, e3⟩
      · left; exact ⟨by omega, e2⟩
      · right; exact ⟨by omega, by simpa using e2, fun q => e3 ⟨by omega, q.2⟩⟩
theorem xst2_at : ∀ (L : xL) (i : Nat) (v : Value) (j : Nat) (w : Value), (xst2 L i v)[j]? = some (some w) → (j = i ∧ w = v) ∨ (j ≠ i ∧ j ≠ i + 1 ∧ L[j]? = some (some w) ∧ ¬ (j + 1 = i ∧ w.category = 2))
  | [], _, _, _, _, h => by simp [xst2] at h
  | [a], i, _, _, _, h => by
    cases i with
    | zero => simp [xst2] at h
    | succ i => cases i <;> simp [xst2] at h
  | a :: b :: l, 0, v, j, w, h => by
    cases j with
    | zero => left; simp [xst2] at h; exact ⟨rfl, h.symm⟩
    | succ j =>
      cases j with
      | zero => simp [xst2] at h
      | succ j => right; exact ⟨by omega, by omega, by simpa [xst2] using h, by omega⟩
  | a :: b :: l, 1, v, j, w, h => by
    cases j with
    | zero =>
      right
      have h1 : xc1 a = some w := by simpa [xst2] using h
      obtain ⟨h2, h3⟩ := xc1_some h1
      exact ⟨by omega, by omega, by simp [h2], fun q => h3 q.2⟩
    | succ j =>
      have h1 : (xst2 (b :: l) 0 v)[j]? = some (some w) := by simpa [xst2] using h
      rcases xst2_at (b :: l) 0 v j w h1 with ⟨e1, e2⟩ | ⟨e1, e2, e3, e4⟩
      · left; exact ⟨by omega, e2⟩
      · right; exact ⟨by omega, by omega, by simpa using e3, by omega⟩
  | a :: b :: l, n + 2, v, j, w, h => by
    cases j with
    | zero =>
      right
      have h1 : a = some w := by simpa [xst2] using h
      exact ⟨by omega, by omega, by simp [h1], by omega⟩
    | succ j =>
      have h1 : (xst2 (b :: l) (n + 1) v)[j]? = some (some w) := by simpa [xst2] using h
      rcases xst2_at (b :: l) (n + 1) v j w h1 with ⟨e1, e2⟩ | ⟨e1, e2, e3, e4⟩
      · left; exact ⟨by omega, e2⟩
      · right; exact ⟨by omega, by omega, by simpa using e3, fun q => e4 ⟨by omega, q.2⟩⟩
theorem xst_has {ad : Nat → Nat} {L : xL} {nL i : Nat} {v : Value} {ls : Array Slot} (h : lv_has ls nL ((i, cv ad v) :: (xps ad L).filter (fun q => !(q.1 == i) && !(q.1 + 1 == i && q.2.category == 2)))) : lv_has ls nL (xps ad (xst L i v)) := by
  refine lv_less h fun q hq => ?_
  obtain ⟨j, w⟩ := q
  obtain ⟨u, h1, rfl⟩ := xps_mem.mp hq
  rcases xst_at L i v j u h1 with ⟨rfl, rfl⟩ | ⟨e1, e2, e3⟩
  · exact List.mem_cons_self
  · refine List.mem_cons_of_mem _ (List.mem_filter.mpr ⟨xps_mem.mpr ⟨u, e2, rfl⟩, ?_⟩)
    simp only [cv_cat, Bool.and_eq_true, Bool.not_eq_true', beq_eq_false_iff_ne, ne_eq, Bool.and_eq_false_iff]
    refine ⟨e1, ?_⟩
    by_cases z : j + 1 = i
    · exact Or.inr fun q => e3 ⟨z, q⟩
    · exact Or.inl z
theorem xst2_has {ad : Nat → Nat} {L : xL} {nL i : Nat} {v : Value} {ls : Array Slot} (h : lv_has ls nL ((i, cv ad v) :: (xps ad L).filter (fun q => !(q.1 == i) && (!(q.1 == i + 1) && !(q.1 + 1 == i && q.2.category == 2))))) : lv_has ls nL (xps ad (xst2 L i v)) := by
  refine lv_less h fun q hq => ?_
  obtain ⟨j, w⟩ := q
  obtain ⟨u, h1, rfl⟩ := xps_mem.mp hq
  rcases xst2_at L i v j u h1 with ⟨rfl, rfl⟩ | ⟨e1, e2, e3, e4⟩
  · exact List.mem_cons_self
  · refine List.mem_cons_of_mem _ (List.mem_filter.mpr ⟨xps_mem.mpr ⟨u, e3, rfl⟩, ?_⟩)
    simp only [cv_cat, Bool.and_eq_true, Bool.not_eq_true', beq_eq_false_iff_ne, ne_eq, Bool.and_eq_false_iff]
    refine ⟨e1, e2, ?_⟩
    by_cases z : j + 1 = i
    · exact Or.inr fun q => e4 ⟨z, q⟩
    · exact Or.inl z
theorem xst_len : ∀ (L : xL) (i : Nat) (v : Value), (xst L i v).length = L.length
  | [], _, _ => rfl
  | _ :: _, 0, _ => rfl
  | _ :: l, 1, v => by simp [xst, xst_len l 0 v]
  | _ :: l, n + 2, v => by simp [xst, xst_len l (n + 1) v]
theorem xst2_len : ∀ (L : xL) (i : Nat) (v : Value), i + 1 < L.length → (xst2 L i v).length = L.length
  | [], _, _, h => by simp at h
  | [_], _, _, h => by simp at h
  | _ :: _ :: _, 0, _, _ => rfl
  | _ :: b :: l, 1, v, h => by simp only [List.length_cons] at h; simp [xst2, xst2_len (b :: l) 0 v (by simp only [List.length_cons]; omega)]
  | _ :: b :: l, n + 2, v, h => by simp only [List.length_cons] at h; simp [xst2, xst2_len (b :: l) (n + 1) v (by simp only [List.length_cons]; omega)]
theorem xw_at {cy : Nat → ClassId} {ad : Nat → Nat} {h : xH} {k : Nat} {q : xC} (e : h[k]? = some q) : (xw cy ad h)[k]? = some (ad k, xe cy ad q) := by
  unfold xw
  rw [List.getElem?_mapIdx, e]
  rfl
theorem xw_set {cy : Nat → ClassId} {ad : Nat → Nat} {h : xH} {k : Nat} {q : xC} : (xw cy ad h).set k (ad k, xe cy ad q) = xw cy ad (h.set k q) := by
  unfold xw
  apply List.ext_getElem?
  intro i
  rw [List.getElem?_mapIdx, List.getElem?_set, List.getElem?_set, List.getElem?_mapIdx, List.length_mapIdx]
  by_cases e : k = i
  · subst e
    rw [if_pos rfl, if_pos rfl]
    by_cases l : k < h.length
    · rw [if_pos l, if_pos l]; rfl
    · rw [if_neg l, if_neg l]; rfl
  · rw [if_neg e, if_neg e]
theorem xw_push {cy : Nat → ClassId} {ad : Nat → Nat} {h : xH} {q : xC} : xw cy ad h ++ [(ad h.length, xe cy ad q)] = xw cy ad (h ++ [q]) := by
  unfold xw
  rw [List.mapIdx_concat]
theorem xwv_eq {ad ad' : Nat → Nat} {n : Nat} (ha : ∀ i, i < n ∨ 1000 ≤ i → ad' i = ad i) {v : Value} (h : wfv n v) : cv ad' v = cv ad v := by
  cases v with
  | ref a => exact congrArg Value.ref (ha a h)
  | _ => rfl
theorem xwS_eq {ad ad' : Nat → Nat} {n : Nat} (ha : ∀ i, i < n ∨ 1000 ≤ i → ad' i = ad i) : ∀ {l : List Value}, xwS n l → l.map (cv ad') = l.map (cv ad)
  | [], _ => rfl
  | v :: l, h => by rw [List.map_cons, List.map_cons, xwv_eq ha h.1, xwS_eq ha h.2]
theorem xwS_at {n : Nat} : ∀ {l : List Value} {j : Nat} {v : Value}, xwS n l → l[j]? = some v → wfv n v
  | [], _, _, _, h => by simp at h
  | a :: l, 0, v, hw, h => by
    have h : a = v := by simpa using h
    rw [← h]; exact hw.1
  | a :: l, j + 1, v, hw, h => xwS_at hw.2 (by simpa using h)
theorem xwL_at {n : Nat} : ∀ {L : xL} {j : Nat} {v : Value}, xwL n L → L[j]? = some (some v) → wfv n v
  | [], _, _, _, h => by simp at h
  | a :: l, 0, v, hw, h => by
    have h : a = some v := by simpa using h
    subst h
    exact hw.1
  | none :: l, j + 1, v, hw, h => xwL_at (L := l) hw (by simpa using h)
  | some a :: l, j + 1, v, hw, h => xwL_at (L := l) hw.2 (by simpa using h)
theorem xwL_eq {ad ad' : Nat → Nat} {n : Nat} (ha : ∀ i, i < n ∨ 1000 ≤ i → ad' i = ad i) {L : xL} (h : xwL n L) {ls : Array Slot} {nL : Nat} (hl : lv_has ls nL (xps ad L)) : lv_has ls nL (xps ad' L) := by
  refine lv_less hl fun q hq => ?_
  obtain ⟨j, w⟩ := q
  obtain ⟨u, h1, rfl⟩ := xps_mem.mp hq
  exact xps_mem.mpr ⟨u, h1, xwv_eq ha (xwL_at h h1)⟩
theorem xwH_at {n : Nat} : ∀ {h : xH} {j : Nat} {q : xC}, xwH n h → h[j]? = some q → xwS n q.2.2
  | [], _, _, _, h => by simp at h
  | a :: l, 0, v, hw, h => by
    have h : a = v := by simpa using h
    rw [← h]; exact hw.1
  | a :: l, j + 1, v, hw, h => xwH_at (h := l) hw.2 (by simpa using h)
theorem xe_eq {cy : Nat → ClassId} {ad ad' : Nat → Nat} {n : Nat} (ha : ∀ i, i < n ∨ 1000 ≤ i → ad' i = ad i) {q : xC} (h : xwS n q.2.2) : xe cy ad' q = xe cy ad q := by
  obtain ⟨t, l, vs⟩ := q
  match t with
  | 0 => rfl
  | 1 => rfl
  | 2 => rfl
  | 3 => rfl
  | 4 =>
    refine (fun key : (fun j => xopt ad' (vs.getD j .null)) = fun j => xopt ad (vs.getD j .null) => ?_) ?_
    · exact congrArg (fun f => (.inl (cy 4, vs.length, .inr (.inr (.inr (.inr f)))) : va_E)) key
    funext j
    rw [List.getD_eq_getElem?_getD]
    cases hj : vs[j]? with
    | none => rfl
    | some v =>
      have hv := xwS_at (show xwS n vs from h) hj
      cases v with
      | ref a => exact congrArg some (ha a hv)
      | _ => rfl
  | t + 5 => exact congrArg (fun z => Sum.inr (t, z)) (xwS_eq ha h)
theorem xw_eq {cy : Nat → ClassId} {ad ad' : Nat → Nat} {h : xH} (ha : ∀ i, i < h.length ∨ 1000 ≤ i → ad' i = ad i) (hw : xwH h.length h) : xw cy ad' h = xw cy ad h := by
  unfold xw
  apply List.ext_getElem?
  intro i
  rw [List.getElem?_mapIdx, List.getElem?_mapIdx]
  cases hi : h[i]? with
  | none => rfl
  | some q =>
    have hl : i < h.length := (List.getElem?_eq_some_iff.mp hi).1
    simp only [Option.map_some]
    rw [ha i (Or.inl hl), xe_eq ha (xwH_at hw hi)]
theorem pI_e {st : List Value} {k : Int32 → List Value → Prop} (h : pI st k) : ∃ x r, st = .int x :: r ∧ k x r := by
  unfold pI at h
  split at h
  · exact ⟨_, _, rfl, h⟩
  · exact h.elim
theorem pJ_e {st : List Value} {k : Int64 → List Value → Prop} (h : pJ st k) : ∃ x r, st = .long x :: r ∧ k x r := by
  unfold pJ at h
  split at h
  · exact ⟨_, _, rfl, h⟩
  · exact h.elim
theorem pF_e {st : List Value} {k : UInt32 → List Value → Prop} (h : pF st k) : ∃ x r, st = .float x :: r ∧ k x r := by
  unfold pF at h
  split at h
  · exact ⟨_, _, rfl, h⟩
  · exact h.elim
theorem pD_e {st : List Value} {k : UInt64 → List Value → Prop} (h : pD st k) : ∃ x r, st = .double x :: r ∧ k x r := by
  unfold pD at h
  split at h
  · exact ⟨_, _, rfl, h⟩
  · exact h.elim
theorem pR_e {st : List Value} {k : Nat → List Value → Prop} (h : pR st k) : ∃ x r, st = .ref x :: r ∧ k x r := by
  unfold pR at h
  split at h
  · exact ⟨_, _, rfl, h⟩
  · exact h.elim
theorem pA_e {st : List Value} {k : Value → List Value → Prop} (h : pA st k) : ∃ x r, st = x :: r ∧ ((∃ a, x = .ref a) ∨ x = .null) ∧ k x r := by
  unfold pA at h
  split at h
  · exact ⟨_, _, rfl, Or.inl ⟨_, rfl⟩, h⟩
  · exact ⟨_, _, rfl, Or.inr rfl, h⟩
  · exact h.elim
theorem p1_e {st : List Value} {k : Value → List Value → Prop} (h : p1 st k) : ∃ x r, st = x :: r ∧ x.category = 1 ∧ k x r := by
  unfold p1 at h
  split at h
  · exact ⟨_, _, rfl, rfl, h⟩
  · exact ⟨_, _, rfl, rfl, h⟩
  · exact ⟨_, _, rfl, rfl, h⟩
  · exact ⟨_, _, rfl, rfl, h⟩
  · exact h.elim
theorem p0_e {st : List Value} {k : Prop} (h : p0 st k) : st = [] ∧ k := by
  unfold p0 at h
  split at h
  · exact ⟨rfl, h⟩
  · exact h.elim
theorem xbif_e {b : Bool} {k : Prop} (h : bif b then k else False) : b = true ∧ k := by
  cases b with
  | true => exact ⟨rfl, h⟩
  | false => exact h.elim
theorem xhas_e : ∀ {L : xL} {n : Nat}, xhas L n = true → n < L.length
  | [], _, h => by cases h
  | _ :: _, 0, _ => Nat.zero_lt_succ _
  | _ :: l, n + 1, h => Nat.succ_lt_succ (xhas_e (L := l) h)
theorem xst_e {L : xL} {n : Nat} {k : Prop} (h : bif xhas L n then k else False) : n < L.length ∧ k := ⟨xhas_e (xbif_e h).1, (xbif_e h).2⟩
theorem xret_e {ret : Option FieldType} {x : Int32} {k : Prop} (h : xret ret x k) : (ret = some .int ∨ (ret = some .boolean ∧ (x = 0 ∨ x = 1))) ∧ k := by
  unfold xret at h
  split at h
  · exact ⟨Or.inl rfl, h⟩
  · exact ⟨Or.inr ⟨rfl, h.1⟩, h.2⟩
  · exact h.elim
theorem xrtl_e {ret : Option FieldType} {k : Prop} (h : xrtl ret k) : ret = some .long ∧ k := by
  unfold xrtl at h
  split at h
  · exact ⟨rfl, h⟩
  · exact h.elim
theorem xrtf_e {ret : Option FieldType} {k : Prop} (h : xrtf ret k) : ret = some .float ∧ k := by
  unfold xrtf at h
  split at h
  · exact ⟨rfl, h⟩
  · exact h.elim
theorem xrtd_e {ret : Option FieldType} {k : Prop} (h : xrtd ret k) : ret = some .double ∧ k := by
  unfold xrtd at h
  split at h
  · exact ⟨rfl, h⟩
  · exact h.elim
theorem xrta_e {ret : Option FieldType} {k : Prop} (h : xrta ret k) : ((∃ n, ret = some (.object n)) ∨ ∃ t, ret = some (.array t)) ∧ k := by
  unfold xrta at h
  split at h
  · exact ⟨Or.inl ⟨_, rfl⟩, h⟩
  · exact ⟨Or.inr ⟨_, rfl⟩, h⟩
  · exact h.elim
theorem xrtv_e {ret : Option FieldType} {k : Prop} (h : xrtv ret k) : ret = none ∧ k := by
  unfold xrtv at h
  split at h
  · exact ⟨rfl, h⟩
  · exact h.elim
theorem xli_e {L : xL} {i : Nat} {k : Int32 → Prop} (h : xli L i k) : ∃ x, xlg L i = some (.int x) ∧ k x := by
  unfold xli at h
  split at h
  · exact ⟨_, by assumption, h⟩
  · exact h.elim
theorem xlj_e {L : xL} {i : Nat} {k : Int64 → Prop} (h : xlj L i k) : ∃ x, xlg L i = some (.long x) ∧ k x := by
  unfold xlj at h
  split at h
  · exact ⟨_, by assumption, h⟩
  · exact h.elim
theorem xlf_e {L : xL} {i : Nat} {k : UInt32 → Prop} (h : xlf L i k) : ∃ x, xlg L i = some (.float x) ∧ k x := by
  unfold xlf at h
  split at h
  · exact ⟨_, by assumption, h⟩
  · exact h.elim
theorem xld_e {L : xL} {i : Nat} {k : UInt64 → Prop} (h : xld L i k) : ∃ x, xlg L i = some (.double x) ∧ k x := by
  unfold xld at h
  split at h
  · exact ⟨_, by assumption, h⟩
  · exact h.elim
theorem xla_e {L : xL} {i : Nat} {k : Value → Prop} (h : xla L i k) : ∃ x, xlg L i = some x ∧ ((∃ a, x = .ref a) ∨ x = .null) ∧ k x := by
  unfold xla at h
  split at h
  · exact ⟨_, by assumption, Or.inl ⟨_, rfl⟩, h⟩
  · exact ⟨_, by assumption, Or.inr rfl, h⟩
  · exact h.elim
theorem xhi_e {h : xH} {a t : Nat} {k : List Int32 → Prop} (hh : xhi h a t k) : ∃ l vs, h[a]? = some (t, l, vs) ∧ k l := by
  unfold xhi at hh
  split at hh
  · rename_i q e
    obtain ⟨h1, h2⟩ := xbif_e hh
    exact ⟨q.2.1, q.2.2, by rw [e, ← (beq_iff_eq.mp h1)], h2⟩
  · exact hh.elim
theorem xhv_e {h : xH} {a t : Nat} {k : List Value → Prop} (hh : xhv h a t k) : ∃ l vs, h[a]? = some (t, l, vs) ∧ k vs := by
  unfold xhv at hh
  split at hh
  · rename_i q e
    obtain ⟨h1, h2⟩ := xbif_e hh
    exact ⟨q.2.1, q.2.2, by rw [e, ← (beq_iff_eq.mp h1)], h2⟩
  · exact hh.elim
theorem xpop_e : ∀ {n : Nat} {acc st : List Value} {k : List Value → List Value → Prop}, xpop n acc st k → ∃ as r, st = as.reverse ++ r ∧ as.length = n ∧ k (as ++ acc) r
  | 0, acc, st, k, h => ⟨[], st, rfl, rfl, h⟩
  | n + 1, acc, [], k, h => h.elim
  | n + 1, acc, v :: st, k, h => by
    obtain ⟨as, r, e1, e2, e3⟩ := xpop_e (n := n) (acc := v :: acc) (st := st) h
    exact ⟨as ++ [v], r, by rw [e1]; simp, by simp [e2], by simpa using e3⟩
theorem xsm_e2 : ∀ {st : List Value} {k : Prop}, xsm st k → st.length ≤ 4 ∧ k
  | [], k, h => ⟨Nat.zero_le _, h⟩
  | [_], k, h => ⟨by simp, h⟩
  | [_, _], k, h => ⟨by simp, h⟩
  | [_, _, _], k, h => ⟨by simp, h⟩
  | [_, _, _, _], k, h => ⟨by simp, h⟩
  | _ :: _ :: _ :: _ :: _ :: _, k, h => h.elim
theorem xsm_e : ∀ {st : List Value}, st.length ≤ 4 → ∀ ad : Nat → Nat, (st.map fun v => v.category).sum ≤ 8 ∧ ((st.map (cv ad)).map fun v => v.category).sum ≤ 8 := by
  intro st h ad
  have hc : ∀ v : Value, v.category ≤ 2 := fun v => by rcases lv_cat v with q | q <;> omega
  have key : ((st.map (cv ad)).map fun v => v.category) = st.map fun v => v.category := by
    rw [List.map_map]
    exact List.map_congr_left fun v _ => cv_cat ad v
  rw [key]
  refine ⟨?_, ?_⟩ <;>
  · match st, h with
    | [], _ => simp
    | [a], _ => have := hc a; simp; omega
    | [a, b], _ => have := hc a; have := hc b; simp; omega
    | [a, b, c], _ => have := hc a; have := hc b; have := hc c; simp; omega
    | [a, b, c, d], _ => have := hc a; have := hc b; have := hc c; have := hc d; simp; omega
    | _ :: _ :: _ :: _ :: _ :: _, h => simp only [List.length_cons] at h; omega
theorem xcpy_eq {f g : List Int32} {sp dp n : Nat} (h1 : sp + n ≤ f.length) (h2 : dp + n ≤ g.length) : va_cpy (fun j => f.getD j 0) (fun j => g.getD j 0) sp dp n = fun j => (xcpy f g sp dp n).getD j 0 := by
  funext j
  unfold va_cpy xcpy
  simp only [List.getD_eq_getElem?_getD]
  by_cases a : dp ≤ j ∧ j < dp + n
  · rw [if_pos a, List.getElem?_append_right (by rw [List.length_take]; omega), List.length_take, Nat.min_eq_left (by omega), List.getElem?_append_left (by rw [List.length_take, List.length_drop]; omega), List.getElem?_take, if_pos (by omega), List.getElem?_drop]
  · rw [if_neg a]
    by_cases b : j < dp
    · rw [List.getElem?_append_left (by rw [List.length_take]; omega), List.getElem?_take, if_pos b]
    · rw [List.getElem?_append_right (by rw [List.length_take]; omega), List.length_take, Nat.min_eq_left (by omega), List.getElem?_append_right (by rw [List.length_take, List.length_drop]; omega), List.length_take, List.length_drop, Nat.min_eq_left (by omega), List.getElem?_drop]
      congr 3
      omega
theorem xcpy_len {f g : List Int32} {sp dp n : Nat} (h1 : sp + n ≤ f.length) (h2 : dp + n ≤ g.length) : (xcpy f g sp dp n).length = g.length := by
  unfold xcpy
  simp only [List.length_append, List.length_take, List.length_drop]
  omega
theorem xset_eq {l : List Int32} {i : Nat} {x : Int32} (h : i < l.length) : upd (fun j => l.getD j 0) i x = fun j => (l.set i x).getD j 0 := by
  funext j
  simp only [upd, List.getD_eq_getElem?_getD, List.getElem?_set]
  by_cases e : j = i
  · rw [if_pos e, if_pos e.symm, if_pos (by omega)]; rfl
  · rw [if_neg e, if_neg (Ne.symm e)]
end
section
/-! ===== what the tables must say of a method's blocks, decided by program; what a walk stands on ===== -/
def xExc : Nat → String
  | 10 => "java/lang/IndexOutOfBoundsException"
  | 11 => "java/lang/IllegalArgumentException"
  | _ => "java/lang/IllegalStateException"
def xNames : List String := ["java/lang/RuntimeException", "java/lang/Exception"]
/-- is it among the words? (by the numbers first, where it has some: texts are dear) -/
def xin (w : Cond) : Bool := match w with
  | .methodLink _ i _ => xTB.any fun z => (match z with | .methodLink _ j _ => j == i | _ => false) && decide (z = w)
  | .fieldLink _ i _ _ _ => xTB.any fun z => (match z with | .fieldLink _ j _ _ _ => j == i | _ => false) && decide (z = w)
  | .constant _ i _ => xTB.any fun z => (match z with | .constant _ j _ => j == i | _ => false) && decide (z = w)
  | .constantLong _ i _ => xTB.any fun z => (match z with | .constantLong _ j _ => j == i | _ => false) && decide (z = w)
  | w => decide (w ∈ xTB)
theorem xin_a {w : Cond} {g : Cond → Bool} (h : (xTB.any fun z => g z && decide (z = w)) = true) : w ∈ xTB := by
  obtain ⟨z, hz, h⟩ := List.any_eq_true.mp h
  have h := ((Bool.and_eq_true _ _).mp h).2
  rw [← of_decide_eq_true h]
  exact hz
theorem xin_e {w : Cond} (h : xin w = true) : w ∈ xTB := by
  unfold xin at h
  split at h
  · exact xin_a h
  · exact xin_a h
  · exact xin_a h
  · exact xin_a h
  · exact of_decide_eq_true h
/-- the word at a place -/
def xat (i : Nat) (w : Cond) : Bool := decide (lw_tbl[i]? = some w) && goodWord w
def xlk (v : Value) (w : Cond) : Bool := match v with
  | .ref i => xat i w
  | _ => false
theorem xat_e {i : Nat} {w : Cond} (h : xat i w = true) : w ∈ xTB := by
  obtain ⟨h1, h2⟩ := (Bool.and_eq_true _ _).mp h
  exact List.mem_filter.mpr ⟨List.mem_of_getElem? (of_decide_eq_true h1), h2⟩
theorem xlk_e {v : Value} {w : Cond} (h : xlk v w = true) : w ∈ xTB := by
  unfold xlk at h
  split at h
  · exact xat_e h
  · cases h
def okA (bl : List xB) (t pc : Nat) (off : Int) : Bool := match bl[t]? with
  | some B => decide ((pc : Int) + off = (B.1 : Int))
  | none => false
def okAs (bl : List xB) (pc : Nat) (offs : Array Int) : Nat → List Nat → Bool
  | _, [] => true
  | j, t :: ts => (match offs[j]? with | some off => okA bl t pc off | none => false) && okAs bl pc offs (j + 1) ts
def xkd : FieldType → Nat
  | .int => 0
  | .boolean => 1
  | .object _ => 2
  | .array _ => 2
  | _ => 9
/-- words of a throw that aren't kept by every warming -/
def xOdd : List Cond := [.castable (xExc 10) (xExc 10), .castable (xExc 11) (xExc 11), .castable (xExc 12) (xExc 12), .declares (Bundle.initS "java/lang/RuntimeException"), .declares (Bundle.initS "java/lang/Exception"), .declares (Bundle.initS Bundle.tN)]
def okT (cc : ByteArray) (own : String) (r1 pc ik : Nat) : List xE → Bool
  | (.dup, _) :: (.ldc is, _) :: (.invokespecial ic, _) :: (.athrow, _) :: _ =>
    decide (own = RX3) && decide (decode cc (pc + 3) = .ok (.dup, 1)) && decide (decode cc (pc + 4) = .ok (.ldc is, 2)) && decide (decode cc (pc + 6) = .ok (.invokespecial ic, 3)) && decide (decode cc (pc + 9) = .ok (.athrow, 1)) &&
    xin (.classLink own ik (xExc r1)) && xin (.initialized (xExc r1)) && (xStr.any fun q => decide (q.1 = is)) && ((vx_atS own ic (xExc r1) xNames).all fun w => xin w || decide (w ∈ xOdd)) && ((Cond.classLink own ik (xExc r1) :: Cond.initialized (xExc r1) :: vx_atS own ic (xExc r1) xNames).all vx_ot)
  | (.dup, _) :: (.ldc_w is, _) :: (.invokespecial ic, _) :: (.athrow, _) :: _ =>
    decide (own = RX3) && decide (decode cc (pc + 3) = .ok (.dup, 1)) && decide (decode cc (pc + 4) = .ok (.ldc_w is, 3)) && decide (decode cc (pc + 7) = .ok (.invokespecial ic, 3)) && decide (decode cc (pc + 10) = .ok (.athrow, 1)) &&
    xin (.classLink own ik (xExc r1)) && xin (.initialized (xExc r1)) && (xStr.any fun q => decide (q.1 = is)) && ((vx_atS own ic (xExc r1) xNames).all fun w => xin w || decide (w ∈ xOdd)) && ((Cond.classLink own ik (xExc r1) :: Cond.initialized (xExc r1) :: vx_atS own ic (xExc r1) xNames).all vx_ot)
  | _ => false
/-- a call: the callee's record, the link, what it makes; KT: kind (0 static, 1 virtual, 2 a constructor) and number of arguments, by the method's number -/
def okC (T : List xM) (KT : List (Nat × Nat)) (own : String) (idx r1 kind n : Nat) (v : Value) (tb : List Nat) : Bool := match T[r1]? with
  | some q => (match v with | .retAddr j => decide (xNest[j]? = some (own, idx, q.1, RX3)) | v => xlk v (.methodLink own idx q.1)) && decide (KT[r1]? = some (kind, n)) && (match tb with
    | [_] => decide (q.2.2.2.2.1 = 0) && decide (q.2.2.2.2.2.1 = 0) && !q.2.2.2.2.2.2.1
    | [_, k1, k2] => decide (q.2.2.2.2.1 = k1) && decide (q.2.2.2.2.2.1 = k2) && !q.2.2.2.2.2.2.1
    | [_, k1, k2, _] => decide (q.2.2.2.2.1 = k1) && decide (q.2.2.2.2.2.1 = k2)
    | _ => false)
  | none => false
def okN (y : MethodName) (n : Nat) : Bool := decide ((parseMethodDescriptor y.desc).map (fun d => d.parameters.length) = some n)
def okI (T : List xM) (KT : List (Nat × Nat)) (y : MethodName) (cc : ByteArray) (bl : List xB) (pc : Nat) (ins : Instr) (len r1 r2 : Nat) (v : Value) (tb : List Nat) (es : List xE) : Bool := match ins with
  | .iconst n => decide (len = 1) && decide (v = .int (Int32.ofInt n))
  | .bipush n => decide (len = 2) && decide (v = .int (Int8.ofInt n).toInt32)
  | .sipush n => decide (len = 3) && decide (v = .int (Int16.ofInt n).toInt32)
  | .ldc i => decide (len = 2) && (match v with
    | .int x => xin (.constant y.cls i x)
    | _ => false)
  | .ldc_w i => decide (len = 3) && (match v with
    | .int x => xin (.constant y.cls i x)
    | _ => false)
  | .ldc2_w i => decide (len = 3) && (match v with
    | .long x => xin (.constantLong y.cls i x)
    | .double x => xin (.constantDouble y.cls i x)
    | _ => false)
  | .lconst n => decide (len = 1) && decide (v = .long (Int64.ofNat (n : Nat)))
  | .fconst n => decide (len = 1) && ((decide (n = 0) && decide (v = .float FP.fconst0)) || (decide (n = 1) && decide (v = .float FP.fconst1)))
  | .dconst n => decide (len = 1) && ((decide (n = 0) && decide (v = .double FP.dconst0)) || (decide (n = 1) && decide (v = .double FP.dconst1)))
  | .iload _ | .lload _ | .fload _ | .dload _ | .aload _ | .istore _ | .lstore _ | .fstore _ | .dstore _ | .astore _ => decide (len = 2)
  | .iinc _ n => decide (len = 3) && decide (v = .int (Int32.ofInt n))
  | .goto off => decide (len = 3) && okA bl r1 pc off
  | .ifCond _ off => decide (len = 3) && okA bl r1 pc off
  | .if_icmp _ off => decide (len = 3) && okA bl r1 pc off
  | .ifnonnull off => decide (len = 3) && okA bl r1 pc off
  | .tableswitch d lo hi offs => decide (lo = (r2 : Int)) && decide (hi = (r2 : Int) + (tb.length : Int) - 1) && decide (r2 + tb.length < 1000) && okA bl r1 pc d && okAs bl pc offs 0 tb
  | .getstatic i => decide (len = 3) && xlk v (.fieldLink y.cls i RX1 "ROW_START" "[I")
  | .getfield i => decide (len = 3) && (match xCl[r1]? with
    | some q => decide (r2 < q.2.2) && xlk v (.fieldLink y.cls i (q.2.1 r2).1 (q.2.1 r2).2.1 (q.2.1 r2).2.2.1)
    | none => false)
  | .putfield i => decide (len = 3) && (match xCl[r1]? with
    | some q => decide (r2 < q.2.2) && xlk v (.fieldLink y.cls i (q.2.1 r2).1 (q.2.1 r2).2.1 (q.2.1 r2).2.2.1) && decide (tb.headD 0 = xkd (xTy r1 r2)) && (!(q.2.1 r2).2.2.2 || (decide (y.name = "<init>") && decide ((q.2.1 r2).1 = y.cls)))
    | none => false)
  | .newarray t => decide (len = 2) && xin (.arrayClass (newarray.typeOf t))
  | .anewarray i => decide (len = 3) && xin (.classLink y.cls i RX2)
  | .new i => decide (len = 3) && (bif xnew r1 then (match xCl[r1]? with
    | some q => xin (.classLink y.cls i q.1) && xin (.instantiable q.1 q.2.2) && xin (.initialized q.1)
    | none => false) else okT cc y.cls r1 pc i es)
  | .invokestatic i => decide (len = 3) && (
    bif r1 == 900 then xin (.methodLink y.cls i arraycopyName) && xin (.native arraycopyName) && xin (.static arraycopyName) && xin (.initialized "java/lang/System")
    else bif r1 == 904 then xin (.methodLink y.cls i ⟨"java/lang/Double", "doubleToRawLongBits", "(D)J"⟩) && xin (.native ⟨"java/lang/Double", "doubleToRawLongBits", "(D)J"⟩) && xin (.static ⟨"java/lang/Double", "doubleToRawLongBits", "(D)J"⟩) && xin (.initialized "java/lang/Double")
    else bif r1 == 905 then xin (.methodLink y.cls i ⟨"java/lang/Float", "floatToRawIntBits", "(F)I"⟩) && xin (.native ⟨"java/lang/Float", "floatToRawIntBits", "(F)I"⟩) && xin (.static ⟨"java/lang/Float", "floatToRawIntBits", "(F)I"⟩) && xin (.initialized "java/lang/Float")
    else okC T KT y.cls i r1 0 r2 v tb)
  | .invokespecial i => decide (len = 3) && (
    bif r1 == 901 then xin (.methodLink y.cls i Lib.objectInit) && xin (.instanceMethod Lib.objectInit) && xin (.code Lib.objectInit ⟨#[0xb1]⟩ 1 none)
    else decide (0 < r2) && okC T KT y.cls i r1 2 (r2 - 1) v tb)
  | .invokevirtual i => decide (len = 3) && decide (0 < r2) && okC T KT y.cls i r1 1 (r2 - 1) v tb && (match T[r1]? with
    | some q => (match xCl[tb.headD 0]? with
      | some z => decide (q.1.cls = z.1)
      | none => false)
    | none => false)
  | .athrow => false
  | _ => decide (len = 1)
def okEs (T : List xM) (KT : List (Nat × Nat)) (y : MethodName) (cc : ByteArray) (bl : List xB) (nx : Nat) : Nat → List xE → Bool
  | pc, [] => okA bl nx pc 0
  | pc, (ins, len, r1, r2, v, tb) :: es => decide (decode cc pc = .ok (ins, len)) && okI T KT y cc bl pc ins len r1 r2 v tb es && (match ins with
    | .goto _ | .tableswitch .. | .ireturn | .lreturn | .freturn | .dreturn | .areturn | .return_ => true
    | .new _ => bif xnew r1 then okEs T KT y cc bl nx (pc + len) es else true
    | _ => okEs T KT y cc bl nx (pc + len) es)
/-- a method's record agrees with the tables; HT: the places of its words -/
def okM (T : List xM) (KT : List (Nat × Nat)) (HT : List (Nat × Nat × Nat × Nat)) (i : Nat) (q : xM) : Bool := match HT[i]? with
  | some (a, b, c, g) => xat a (.code q.1 q.2.1 q.2.2.1 q.2.2.2.1) && xat b (.initialized q.1.cls) && decide (q.2.2.1 ≤ 40) && plainFor q.1 && decide (q.1.cls ≠ "java/lang/invoke/MethodHandle" ∧ q.1.cls ≠ "java/lang/invoke/VarHandle") &&
    (match KT[i]? with
    | some (0, n) => xat c (.static q.1) && okN q.1 n
    | some (1, n) => xat c (.instanceMethod q.1) && xat g (.selects q.1.cls q.1 q.1) && okN q.1 n
    | some (2, n) => decide (q.1.name = "<init>") && decide (q.2.2.2.1 = none) && xat c (.instanceMethod q.1) && okN q.1 n
    | _ => false) &&
    (match q.2.2.2.2.2.2.2[0]? with | some B => decide (B.1 = 0) | none => false) && q.2.2.2.2.2.2.2.all fun B => okEs T KT q.1 q.2.1 q.2.2.2.2.2.2.2 B.2.2 B.1 B.2.1
  | none => false
/-- what is given of the heap outside the world, and of the tables' nest mates and texts -/
def xGl (A : Nat → Prop) (tR : Nat) (U : State) (H : Heap) : Prop :=
  va_Z RX1 "ROW_START" "[I" (.ref tR) A U H ∧ va_T .int tR 5 (fun j => .int (([0, 5, 9, 12, 14] : List Int32).getD j 0)) A U H ∧ vx_Zq Bundle.tN "UNASSIGNED_STACK" Bundle.steD A U H ∧ vx_Zq Bundle.tN "SUPPRESSED_SENTINEL" Bundle.listD A U H ∧
  (∀ q ∈ xNest, va_Nw (.methodLinkNest q.1 q.2.1 q.2.2.1 q.2.2.2) U) ∧ (∀ q ∈ xStr, ∃ sa, vk_R RX3 q.1 q.2 sa U) ∧ va_AO RX2 U ∧ (∀ w ∈ xOdd, va_Nw w U)
theorem xOdd_warm {s U : State} (hW : s.WarmedH U.vm) (h : ∀ w ∈ xOdd, va_Nw w s) : ∀ w ∈ xOdd, va_Nw w U := by
  unfold xOdd at h ⊢
  simp only [List.forall_mem_cons] at h ⊢
  obtain ⟨h1, h2, h3, h4, h5, h6, -⟩ := h
  exact ⟨va_Nw.warmC hW h1, va_Nw.warmC hW h2, va_Nw.warmC hW h3, va_Nw.warmD hW h4, va_Nw.warmD hW h5, va_Nw.warmD hW h6, fun _ h => nomatch h⟩
theorem xOdd_use {s : State} {args : Array Value} (h : ∀ w ∈ xOdd, va_Nw w s) : ∀ w ∈ xOdd, w.before args s = true := by
  unfold xOdd at h ⊢
  simp only [List.forall_mem_cons] at h ⊢
  obtain ⟨h1, h2, h3, h4, h5, h6, -⟩ := h
  exact ⟨va_Nw.use rfl h1, va_Nw.use rfl h2, va_Nw.use rfl h3, va_Nw.use rfl h4, va_Nw.use rfl h5, va_Nw.use rfl h6, fun _ h => nomatch h⟩
theorem xGl.warm {A : Nat → Prop} {tR : Nat} {s U : State} {H : Heap} (hW : s.WarmedH U.vm) (h : xGl A tR s H) : xGl A tR U H := by
  obtain ⟨h1, h2, h3, h4, h5, h6, h7, h8⟩ := h
  refine ⟨va_Z.moved hW.alike h1, va_T.moved hW.alike h2, vx_Zq.moved hW.alike h3, vx_Zq.moved hW.alike h4, fun q hq => va_Nw.warmM hW (h5 q hq), fun q hq => ?_, va_AO.moved hW.alike h7, xOdd_warm hW h8⟩
  obtain ⟨sa, h⟩ := h6 q hq
  exact ⟨sa, vk_R.warm hW h⟩
theorem xGl.kept {A : Nat → Prop} {tR : Nat} {U : State} {H H1 : Heap} (hq : ∀ a : Nat, a < H.size → ¬ A a → H1[a]? = H[a]?) (h : xGl A tR U H) : xGl A tR U H1 := by
  obtain ⟨h1, h2, h3, h4, h5⟩ := h
  exact ⟨h1.kept hq, h2.kept hq, h3.kept hq, h4.kept hq, h5⟩
theorem xGl.narrow {A B : Nat → Prop} {tR : Nat} {U : State} {H : Heap} (hAB : ∀ q, B q → A q) (h : xGl A tR U H) : xGl B tR U H := by
  obtain ⟨h1, h2, h3, h4, h5⟩ := h
  exact ⟨h1.narrow hAB, h2.narrow hAB, h3.narrow hAB, h4.narrow hAB, h5⟩
/-- the room of a method whose calls go d deep -/
def xrm (d mc ms : Nat) : Room := { frames := 8 + 2 * d, cells := mc, slots := ms, locals := 200 + 60 * d }
def xR (d : Nat) (R : Room) : Prop := 8 + 2 * d ≤ R.frames ∧ 200 + 60 * d ≤ R.locals
def xCtx (p : Program) (l : Launch) (s : State) (m : MethodId) (args : Array Value) (meth : Method) (c : Code) (y : MethodName) (cc : ByteArray) (nL : Nat) (ret : Option FieldType) (D : va_G) (cy : Nat → ClassId) (A : Nat → Prop) (tR : Nat) : Prop :=
  p.tables.exec = Jvm.exec ∧ c.code = cc ∧ meth.sig.returnType = ret ∧ c.maxLocals = nL ∧ s.vm.findClass y.cls = some m.cls ∧ (∀ w ∈ xTB, w.before args s = true) ∧ meth.locks = false ∧ meth.name = y.name ∧ (y.cls = RX3 → ∀ x ∈ c.exceptionTable.toList, False) ∧
  va_K D xCl (xtys cy) s ∧ (∀ q, s.heap.size ≤ q → A q) ∧ xGl A tR s s.heap ∧ l.stackTraces = false
/-- a walk from pc on, in whatever heap holds h, wherever its cells lie -/
def xW (p : Program) (l : Launch) (e : Env) (R : Room) (s : State) (m : MethodId) (args : Array Value) (below : List Frame) (meth : Method) (c : Code) (Qm : State → Prop) (D : va_G) (cy : Nat → ClassId) (A : Nat → Prop) (ad0 : Nat → Nat) (n0 : Nat) (al : Bool) (nL mc ms : Nat) (pc : Nat) (L : xL) (st : List Value) (h : xH) (cs ss : Nat) : Prop :=
  cs ≤ mc → ss ≤ ms → ∀ (ad : Nat → Nat) (H : Heap) (locs : List Loc) (ls : Array Slot), n0 ≤ h.length → (∀ i, i < n0 ∨ 1000 ≤ i → ad i = ad0 i) → (al = false → ad = ad0) → L.length = nL → lv_has ls nL (xps ad L) → va_P D xCl (xw cy ad h) H → va_D A (xw cy ad h) → va_S A s.heap H locs →
    W p l e R s m args below meth c H locs cs ss Qm (F0 m pc ls (st.map (cv ad)))
def xPc (D : va_G) (cy : Nat → ClassId) (ad0 : Nat → Nat) (h : xH) (args : List Value) (sz : Nat) : Array Value → State → Prop := va_Pc (args.map (cv ad0)) (fun U => U.heap.size = sz ∧ va_P D xCl (xw cy ad0 h) U.heap ∧ va_K D xCl (xtys cy) U ∧ va_D (fun _ => True) (xw cy ad0 h) ∧ xGl (va_A (xw cy ad0 h) sz) (ad0 1000) U U.heap)
def xBk (D : va_G) (cy : Nat → ClassId) (ad0 ad : Nat → Nat) (n0 : Nat) (al : Bool) (A : Nat → Prop) (h : xH) (t : State) : Prop := n0 ≤ h.length ∧ (∀ i, i < n0 ∨ 1000 ≤ i → ad i = ad0 i) ∧ (al = false → ad = ad0) ∧ va_P D xCl (xw cy ad h) t.heap ∧ va_K D xCl (xtys cy) t ∧ va_D A (xw cy ad h)
def xQc (D : va_G) (cy : Nat → ClassId) (ad0 : Nat → Nat) (n0 : Nat) (al : Bool) (A : Nat → Prop) (Q : Option Value → xH → Prop) : Array Value → State → Outcome → State → Prop := fun _ st oc t =>
  (∃ (v : Option Value) (h : xH) (ad : Nat → Nat), oc = .returned (v.map (cv ad)) ∧ Q v h ∧ xBk D cy ad0 ad n0 al A h t) ∧ va_F A st t
def xXc (D : va_G) (cy : Nat → ClassId) (ad0 : Nat → Nat) (n0 : Nat) (al : Bool) (A : Nat → Prop) (X : Nat → xH → Prop) : String → State → State → Prop := fun E st t =>
  (∃ (k : Nat) (h : xH) (ad : Nat → Nat), E = xExc k ∧ X k h ∧ xBk D cy ad0 ad n0 al A h t) ∧ va_F A st t
/-- what Ev says, said of the machine -/
def xSound (T : List xM) (l : Launch) (d : Nat) : Prop := ∀ (M : Nat) (args : List Value) (h : xH) (Q : Option Value → xH → Prop) (X : Nat → xH → Prop), Ev T d M args h Q X → ∃ q : xM, T[M]? = some q ∧ ∀ (D : va_G) (cy : Nat → ClassId) (ad0 : Nat → Nat) (sz : Nat),
  vx_Met l q.1 (Cond.code q.1 q.2.1 q.2.2.1 q.2.2.2.1 :: xTB) (xrm d q.2.2.2.2.1 q.2.2.2.2.2.1) (xPc D cy ad0 h args sz) (xQc D cy ad0 h.length q.2.2.2.2.2.2.1 (va_A (xw cy ad0 h) sz) Q) (xXc D cy ad0 h.length q.2.2.2.2.2.2.1 (va_A (xw cy ad0 h) sz) X) q.2.2.2.2.1 q.2.2.2.2.2.1 (va_A (xw cy ad0 h) sz)
theorem xTB_good : ∀ w ∈ xTB, (w.onTables && w.keeps) = true ∨ ∃ ty, w = .arrayClass ty := fun w h => good_of_word (List.mem_filter.mp h).2
theorem xTB_in : ∀ w ∈ xTB, w ∈ lw_tbl := fun w h => (List.mem_filter.mp h).1
theorem xGI (ws : List Cond) (h : ∀ w ∈ ws, w ∈ xTB) : GoodIn xTB ws := fun w hw => ⟨h w hw, xTB_good w (h w hw)⟩
theorem xcl_in (ci : Nat) (q : vw_C) (h : xCl[ci]? = some q) : ∀ w ∈ u_ws q.1 q.2.1 q.2.2, w ∈ xTB := by
  match ci, h with
  | 0, h => cases h; exact (by decide +kernel : ∀ w ∈ u_ws RX2 TX2 7, w ∈ xTB)
  | 1, h => cases h; exact (by decide +kernel : ∀ w ∈ u_ws RX3 TX3 9, w ∈ xTB)
  | n + 2, h => simp [xCl] at h
theorem xcl_ty (ci : Nat) (q : vw_C) (h : xCl[ci]? = some q) : ∀ k, k < q.2.2 → parseFieldDescriptor (q.2.1 k).2.2.1 = some (xTy ci k) := by
  match ci, h with
  | 0, h => cases h; exact tyX2_ok
  | 1, h => cases h; exact tyX3_ok
  | n + 2, h => simp [xCl] at h
theorem xcl_nm (ci : Nat) (q : vw_C) (h : xCl[ci]? = some q) : ∀ a, a < q.2.2 → ∀ b, b < q.2.2 → a ≠ b → (q.2.1 a).2.1 ≠ (q.2.1 b).2.1 := by
  match ci, h with
  | 0, h => cases h; exact nmX2
  | 1, h => cases h; exact nmX3
  | n + 2, h => simp [xCl] at h
theorem xcl_def (ci : Nat) (q : vw_C) (h : xCl[ci]? = some q) : (xdef ci).length = q.2.2 ∧ ∀ j, j < q.2.2 → defaultValue (xTy ci j) = vp_V (xdef ci) j := by
  match ci, h with
  | 0, h => cases h; exact ⟨rfl, by decide +kernel⟩
  | 1, h => cases h; exact ⟨rfl, by decide +kernel⟩
  | n + 2, h => simp [xCl] at h
theorem xfit_ok {ty : FieldType} {x : Value} {k : Prop} (ad : Nat → Nat) (h : xfit (xkd ty) x k) : (narrow ty (cv ad x) = cv ad x ∧ fits ty (cv ad x) = true) ∧ k := by
  cases ty <;> cases x <;> simp [xkd, xfit] at h <;> first | exact ⟨⟨rfl, rfl⟩, h⟩ | (obtain ⟨h, hk⟩ := h; refine ⟨?_, hk⟩; rcases h with rfl | rfl <;> first | exact ⟨(by decide +kernel : narrow .boolean (.int 0) = .int 0), (by decide +kernel : fits .boolean (.int 0) = true)⟩ | exact ⟨(by decide +kernel : narrow .boolean (.int 1) = .int 1), (by decide +kernel : fits .boolean (.int 1) = true)⟩)
theorem xdef_map (ad : Nat → Nat) (ci : Nat) : (xdef ci).map (cv ad) = xdef ci := by
  match ci with
  | 0 => rfl
  | 1 => rfl
  | n + 2 => rfl
end
section
/-! ===== calls ===== -/
section RXC
variable {p : Program} {l : Launch} {e : Env} {R : Room} {s : State} {m : MethodId} {args : Array Value} {below : List Frame} {meth : Method} {c : Code} {H : Heap} {locs : List Loc} {cells slots : Nat} {Q : State → Prop}
/-- a contract that never throws -/
theorem x_met {y : MethodName} {ws : List Cond} {rm : Room} {Pc : Array Value → State → Prop} {Qc : Array Value → State → Outcome → State → Prop} {XC : String → State → State → Prop} {mc ms : Nat} {free : Addr → Prop}
    (h : vx_Met l y ws rm Pc Qc XC mc ms free) (hX : ∀ E st t, ¬ XC E st t) : Met l y ws rm Pc Qc mc ms free := by
  intro p e ha hc hk s m args below hf happ hP hK
  obtain ⟨k, o, h1, h2, h3, h4⟩ := h p e ha hc hk s m args below hf happ hP hK
  refine ⟨k, o, h1, h2, h3, ?_⟩
  rcases h4 with h4 | ⟨q, rfl, E, ce, L, hx, -⟩
  · exact h4
  · exact absurd hx (hX _ _ _)
theorem x_blind {D : va_G} {cy : Nat → ClassId} {ad0 : Nat → Nat} {h : xH} {as : List Value} {sz : Nat} : FrameBlind (xPc D cy ad0 h as sz) := by
  rintro a U g mk ⟨q0, q1, qP, qK, qD, qG⟩
  exact ⟨q0, q1, qP, va_K.moved (u := U) (U := U.calling g mk a) (Vm.Alike.refl U.vm) qK, qD, xGl.warm (s := U) (U := U.calling g mk a) (State.WarmedH.refl U) qG⟩
theorem x_call {D : va_G} {cy : Nat → ClassId} {A A1 : Nat → Prop} {ad : Nat → Nat} {n : Nat} {al : Bool} {mc ms : Nat} {pc : Nat} {ls : Array Slot} {st0 rest : List Value} {a : Array Value} {Qf : Option Value → xH → Prop} {free : Addr → Prop}
    (hr : va_Run p l e R s m args below meth c H locs cells slots mc ms (F0 m pc ls st0) rest (xQc D cy ad n al A1 Qf a) free) (hS : va_S A s.heap H locs) (hA : ∀ q, A1 q → A q) (hf : ∀ q, free q → A q)
    (kk : ∀ (v : Option Value) (h : xH) (ad' : Nat → Nat) (H1 : Heap) (locs1 : List Loc), Qf v h → n ≤ h.length → (∀ i, i < n ∨ 1000 ≤ i → ad' i = ad i) → (al = false → ad' = ad) → va_P D xCl (xw cy ad' h) H1 → va_D A (xw cy ad' h) → va_S A s.heap H1 locs1 → W p l e R s m args below meth c H1 locs1 (cells + mc) (slots + ms) Q (F0 m (pc + 3) ls ((v.map (cv ad')).toList ++ rest))) : W p l e R s m args below meth c H locs cells slots Q (F0 m pc ls st0) := by
  intro T hT X
  obtain ⟨v, st₀, t, T', L, h0, X', hL, e1, e2, ⟨⟨v', h, ad', hv, hq, hn, had, hal, hP, hK, hD⟩, hz, hk⟩, st⟩ := hr T hT X
  have hv : v = v'.map (cv ad') := by injection hv
  subst hv
  rw [h0] at hz hk
  obtain ⟨t2, a1, b1⟩ := kk v' h ad' T'.heap (locs ++ L) hq hn had hal (by rw [e1]; exact hP) (hD.weaken fun _ _ _ h => hA _ h)
    ⟨Nat.le_trans hS.1 (by rw [e1]; exact hz), fun q h1 h2 => by rw [e1, hk q (Nat.lt_of_lt_of_le h1 hS.1) (fun z => h2 (hA q z))]; exact hS.2.1 q h1 h2, fun q hq => by
      rcases List.mem_append.mp hq with h | h
      · exact hS.2.2 q h
      · exact hf _ (hL q h)⟩ T' rfl X'
  exact ⟨t2, st t2 a1, b1⟩
theorem x_free {cy : Nat → ClassId} {A : Nat → Prop} {ad : Nat → Nat} {h : xH} (hD : va_D A (xw cy ad h)) (hS : va_S A s.heap H locs) (hA : ∀ q, s.heap.size ≤ q → A q) : ∀ q, va_A (xw cy ad h) H.size q → A q := by
  rintro q (⟨k, e, hk⟩ | hq)
  · exact hD.2 k _ hk
  · exact hA q (Nat.le_trans hS.1 hq)
/-- what the callee asks at its start -/
theorem x_pre {y0 : MethodName} {cc : ByteArray} {nL : Nat} {ret : Option FieldType} {D : va_G} {cy : Nat → ClassId} {A : Nat → Prop} {ad : Nat → Nat} {h : xH} {as : List Value}
    (C : xCtx p l s m args meth c y0 cc nL ret D cy A (ad 1000)) (hP : va_P D xCl (xw cy ad h) H) (hD : va_D A (xw cy ad h)) (hS : va_S A s.heap H locs) : ∀ U : State, U.heap = H → s.WarmedH U.vm → xPc D cy ad h as H.size ((as.map (cv ad)).toArray) U := by
  obtain ⟨hx, hb, hr, hml, hown, hts, hlocks, hnm, hex, hK, hA, hG, hfl⟩ := C
  intro U hU hW
  subst hU
  exact ⟨rfl, rfl, hP, va_K.moved hW.alike hK, hD.weaken (fun _ _ _ _ => trivial), xGl.narrow (x_free hD hS hA) ((xGl.warm hW hG).kept hS.2.1)⟩
theorem x_and2' {a b : Bool} (h : (a && b) = true) : a = true ∧ b = true := (Bool.and_eq_true a b).mp h
def xtbOk (q : xM) (tb : List Nat) : Bool := match tb with
  | [_] => decide (q.2.2.2.2.1 = 0) && decide (q.2.2.2.2.2.1 = 0) && !q.2.2.2.2.2.2.1
  | [_, k1, k2] => decide (q.2.2.2.2.1 = k1) && decide (q.2.2.2.2.2.1 = k2) && !q.2.2.2.2.2.2.1
  | [_, k1, k2, _] => decide (q.2.2.2.2.1 = k1) && decide (q.2.2.2.2.2.1 = k2)
  | _ => false
theorem okC_e {T : List xM} {KT : List (Nat × Nat)} {own : String} {idx r1 kind n : Nat} {v : Value} {tb : List Nat} (h : okC T KT own idx r1 kind n v tb = true) : ∃ q, T[r1]? = some q ∧ (Cond.methodLink own idx q.1 ∈ xTB ∨ (own, idx, q.1, RX3) ∈ xNest) ∧ KT[r1]? = some (kind, n) ∧ xtbOk q tb = true := by
  unfold okC at h
  split at h
  · rename_i q e
    obtain ⟨h1, h2⟩ := x_and2' h
    obtain ⟨h3, h4⟩ := x_and2' h1
    refine ⟨q, e, ?_, of_decide_eq_true h4, h2⟩
    split at h3
    · exact Or.inr (List.mem_of_getElem? (of_decide_eq_true h3))
    · exact Or.inl (xlk_e h3)
  · cases h
theorem xcall_e {E : Nat → List Value → xH → (Option Value → xH → Prop) → Prop} {mc ms : Nat} {al : Bool} {M : Nat} {tb : List Nat} {as : List Value} {L : xL} {st : List Value} {h : xH} {cs ss : Nat} {go : xG0} {q : xM} (hc : cs ≤ mc) (hs : ss ≤ ms) (hw : xcall E mc ms al M tb as L st h cs ss go) (ht : xtbOk q tb = true) :
    st.length ≤ 4 ∧ cs + q.2.2.2.2.1 ≤ mc ∧ ss + q.2.2.2.2.2.1 ≤ ms ∧ (q.2.2.2.2.2.2.1 = true → al = true ∧ xwL h.length L ∧ xwS h.length st) ∧ E M as h (fun v h' => go L (xpush v st) h' (cs + q.2.2.2.2.1) (ss + q.2.2.2.2.2.1)) := by
  unfold xcall at hw
  unfold xtbOk at ht
  obtain ⟨h0, hw⟩ := xsm_e2 hw
  refine ⟨h0, ?_⟩
  split at hw
  · obtain ⟨t1, t2⟩ := x_and2' ht
    obtain ⟨t3, t4⟩ := x_and2' t1
    rw [of_decide_eq_true t3, of_decide_eq_true t4]
    refine ⟨hc, hs, fun z => ?_, hw⟩
    rw [z] at t2; cases t2
  · obtain ⟨t1, t2⟩ := x_and2' ht
    obtain ⟨t3, t4⟩ := x_and2' t1
    rw [of_decide_eq_true t3, of_decide_eq_true t4]
    refine ⟨hw.1, hw.2.1, fun z => ?_, hw.2.2⟩
    rw [z] at t2; cases t2
  · obtain ⟨t3, t4⟩ := x_and2' ht
    rw [of_decide_eq_true t3, of_decide_eq_true t4]
    obtain ⟨w1, w2, w3, w4, w5, w6⟩ := hw
    exact ⟨w2, w3, fun _ => ⟨w1, w4, w5⟩, w6⟩
  · exact hw.elim
theorem okM_e {T : List xM} {KT : List (Nat × Nat)} {HT : List (Nat × Nat × Nat × Nat)} {i : Nat} {q : xM} (h : okM T KT HT i q = true) : Cond.code q.1 q.2.1 q.2.2.1 q.2.2.2.1 ∈ xTB ∧ Cond.initialized q.1.cls ∈ xTB ∧ q.2.2.1 ≤ 40 ∧ plainFor q.1 = true ∧ (q.1.cls ≠ "java/lang/invoke/MethodHandle" ∧ q.1.cls ≠ "java/lang/invoke/VarHandle") ∧
    (∀ k n, KT[i]? = some (k, n) → okN q.1 n = true ∧ (k = 0 → Cond.static q.1 ∈ xTB) ∧ (k = 1 → Cond.instanceMethod q.1 ∈ xTB ∧ Cond.selects q.1.cls q.1 q.1 ∈ xTB) ∧ (k = 2 → q.1.name = "<init>" ∧ q.2.2.2.1 = none ∧ Cond.instanceMethod q.1 ∈ xTB)) ∧
    (∃ B, q.2.2.2.2.2.2.2[0]? = some B ∧ B.1 = 0) ∧ ∀ B ∈ q.2.2.2.2.2.2.2, okEs T KT q.1 q.2.1 q.2.2.2.2.2.2.2 B.2.2 B.1 B.2.1 = true := by
  unfold okM at h
  split at h
  case h_2 => cases h
  obtain ⟨h, h7⟩ := x_and2' h
  obtain ⟨h, h6⟩ := x_and2' h
  obtain ⟨h, h8⟩ := x_and2' h
  obtain ⟨h, h5⟩ := x_and2' h
  obtain ⟨h, h4⟩ := x_and2' h
  obtain ⟨h, h3⟩ := x_and2' h
  obtain ⟨h1, h2⟩ := x_and2' h
  refine ⟨xat_e h1, xat_e h2, of_decide_eq_true h3, h4, of_decide_eq_true h5, ?_, ?_, fun B hB => List.all_eq_true.mp h7 B hB⟩
  · intro k n hk
    rw [hk] at h8
    match k, h8 with
    | 0, h8 =>
      obtain ⟨a, b⟩ := x_and2' h8
      exact ⟨b, fun _ => xat_e a, (fun z => by cases z), (fun z => by cases z)⟩
    | 1, h8 =>
      obtain ⟨a, b⟩ := x_and2' h8
      exact ⟨b, (fun z => by cases z), (fun _ => ⟨xat_e (x_and2' a).1, xat_e (x_and2' a).2⟩), (fun z => by cases z)⟩
    | 2, h8 =>
      obtain ⟨a, b⟩ := x_and2' h8
      obtain ⟨a, c⟩ := x_and2' a
      obtain ⟨a, e⟩ := x_and2' a
      exact ⟨b, (fun z => by cases z), (fun z => by cases z), fun _ => ⟨of_decide_eq_true a, of_decide_eq_true e, xat_e c⟩⟩
    | k + 3, h8 => cases h8
  · split at h6
    · exact ⟨_, by assumption, of_decide_eq_true h6⟩
    · cases h6
theorem okN_e {y : MethodName} {n : Nat} (h : okN y n = true) : (parseMethodDescriptor y.desc).map (fun d => d.parameters.length) = some n := of_decide_eq_true h
/-- the words and the room of a callee -/
theorem x_cb {T : List xM} {KT : List (Nat × Nat)} {HT : List (Nat × Nat × Nat × Nat)} {i9 : Nat} {q : xM} {d idx n : Nat} {own : String} (hts : ∀ w ∈ xTB, w.before args s = true) (hok : okM T KT HT i9 q = true) (hl : Cond.methodLink own idx q.1 ∈ xTB) (hn : okN q.1 n = true) (hR : xR (d + 1) R) :
    CallB R s args own idx q.1 q.2.1 q.2.2.1 q.2.2.2.1 (Cond.code q.1 q.2.1 q.2.2.1 q.2.2.2.1 :: xTB) (xrm d q.2.2.2.2.1 q.2.2.2.2.2.1) q.2.2.2.2.1 q.2.2.2.2.2.1 n := by
  obtain ⟨h1, h2, h3, h4, h5, -, -, -⟩ := okM_e hok
  refine callB_of n hts (xGI _ fun w hw => (List.mem_cons.mp hw).elim (fun z => by rw [z]; exact h1) id) rfl rfl rfl (hts _ h2) (hts _ hl) ⟨h5.1, h5.2, okN_e hn⟩ ?_
  obtain ⟨r1, r2⟩ := hR
  show 8 + 2 * d + 1 ≤ R.frames ∧ 8 + (q.2.2.1 + 11) + (200 + 60 * d) ≤ R.locals
  omega
theorem x_cn {T : List xM} {KT : List (Nat × Nat)} {HT : List (Nat × Nat × Nat × Nat)} {i9 : Nat} {q : xM} {d idx n : Nat} {own : String} {A : Nat → Prop} {tR : Nat} (hts : ∀ w ∈ xTB, w.before args s = true) (hG : xGl A tR s s.heap) (hok : okM T KT HT i9 q = true) (hl : (own, idx, q.1, RX3) ∈ xNest) (hn : okN q.1 n = true) (hR : xR (d + 1) R) :
    va_CN R s args own idx q.1 RX3 q.2.1 q.2.2.1 q.2.2.2.1 (Cond.code q.1 q.2.1 q.2.2.1 q.2.2.2.1 :: xTB) (xrm d q.2.2.2.2.1 q.2.2.2.2.2.1) q.2.2.2.2.1 q.2.2.2.2.2.1 n := by
  obtain ⟨h1, h2, h3, h4, h5, -, -, -⟩ := okM_e hok
  refine va_cnB n hts (xGI _ fun w hw => (List.mem_cons.mp hw).elim (fun z => by rw [z]; exact h1) id) rfl rfl rfl (hG.2.2.2.2.1 _ hl) (hts _ h2) ⟨h5.1, h5.2, okN_e hn⟩ ?_
  obtain ⟨r1, r2⟩ := hR
  show 8 + 2 * d + 1 ≤ R.frames ∧ 8 + (q.2.2.1 + 11) + (200 + 60 * d) ≤ R.locals
  omega
/-- behind a call -/
theorem x_fin {D : va_G} {cy : Nat → ClassId} {A : Nat → Prop} {ad0 ad ad' : Nat → Nat} {n0 : Nat} {al alq : Bool} {nL mc ms pc cs ss : Nat} {L : xL} {st : List Value} {h h' : xH} {v : Option Value} {H1 : Heap} {locs1 : List Loc} {ls : Array Slot}
    (go : xW p l e R s m args below meth c Q D cy A ad0 n0 al nL mc ms (pc + 3) L (xpush v st) h' cs ss) (hc : cs ≤ mc) (hs : ss ≤ ms) (hn : n0 ≤ h.length) (had : ∀ i, i < n0 ∨ 1000 ≤ i → ad i = ad0 i) (hal : al = false → ad = ad0) (hL : L.length = nL) (hl : lv_has ls nL (xps ad L))
    (hq : alq = true → al = true ∧ xwL h.length L ∧ xwS h.length st) (hn1 : h.length ≤ h'.length) (had1 : ∀ i, i < h.length ∨ 1000 ≤ i → ad' i = ad i) (hal1 : alq = false → ad' = ad) (hP1 : va_P D xCl (xw cy ad' h') H1) (hD1 : va_D A (xw cy ad' h')) (hS1 : va_S A s.heap H1 locs1) :
    W p l e R s m args below meth c H1 locs1 cs ss Q (F0 m (pc + 3) ls ((v.map (cv ad')).toList ++ st.map (cv ad))) := by
  have e1 : lv_has ls nL (xps ad' L) ∧ st.map (cv ad') = st.map (cv ad) := by
    cases alq with
    | false => rw [hal1 rfl]; exact ⟨hl, rfl⟩
    | true => exact ⟨xwL_eq had1 (hq rfl).2.1 hl, xwS_eq had1 (hq rfl).2.2⟩
  have g := go hc hs ad' H1 locs1 ls (Nat.le_trans hn hn1) (fun i hi => (had1 i (hi.elim (fun z => Or.inl (Nat.lt_of_lt_of_le z hn)) Or.inr)).trans (had i hi))
    (fun z => by
      cases alq with
      | false => rw [hal1 rfl]; exact hal z
      | true => rw [(hq rfl).1] at z; cases z) hL e1.1 hP1 hD1 hS1
  have e2 : (xpush v st).map (cv ad') = (v.map (cv ad')).toList ++ st.map (cv ad) := by
    rw [← e1.2]
    cases v <;> rfl
  rw [e2] at g
  exact g
end RXC
end
section
/-! ===== a run of entries is sound: written by program, a case an instruction ===== -/
def xrt (ret : Option FieldType) (ins : Instr) (v : Option Value) : Prop := match ins with
  | .ireturn => ∃ x, v = some (.int x) ∧ (ret = some .int ∨ (ret = some .boolean ∧ (x = 0 ∨ x = 1)))
  | .lreturn => ∃ x, v = some (.long x) ∧ ret = some .long
  | .freturn => ∃ x, v = some (.float x) ∧ ret = some .float
  | .dreturn => ∃ x, v = some (.double x) ∧ ret = some .double
  | .areturn => ∃ x, v = some x ∧ ((∃ a, x = .ref a) ∨ x = .null) ∧ ((∃ n, ret = some (.object n)) ∨ ∃ t, ret = some (.array t))
  | .return_ => v = none ∧ ret = none
  | _ => False
theorem x_and2 {a b : Bool} (h : (a && b) = true) : a = true ∧ b = true := (Bool.and_eq_true a b).mp h
theorem x_and3 {a b c : Bool} (h : (a && b && c) = true) : a = true ∧ b = true ∧ c = true := by
  obtain ⟨h1, h2⟩ := x_and2 h
  obtain ⟨h3, h4⟩ := x_and2 h1
  exact ⟨h3, h4, h2⟩
theorem okA_e {bl : List xB} {t pc : Nat} {off : Int} (h : okA bl t pc off = true) : ∃ B, bl[t]? = some B ∧ (pc : Int) + off = (B.1 : Int) := by
  unfold okA at h
  split at h
  · exact ⟨_, by assumption, of_decide_eq_true h⟩
  · cases h
theorem okAs_e {bl : List xB} {pc : Nat} {offs : Array Int} : ∀ {ts : List Nat} {j : Nat}, okAs bl pc offs j ts = true → ∀ i t, ts[i]? = some t → ∃ off, offs[j + i]? = some off ∧ okA bl t pc off = true
  | [], j, h, i, t, hi => by simp at hi
  | u :: ts, j, h, i, t, hi => by
    obtain ⟨h1, h2⟩ := x_and2 h
    cases i with
    | zero =>
      have hi : u = t := by simpa using hi
      subst hi
      cases ho : offs[j]? with
      | none => rw [ho] at h1; cases h1
      | some off => rw [ho] at h1; exact ⟨off, by simpa using ho, h1⟩
    | succ i =>
      obtain ⟨off, e1, e2⟩ := okAs_e h2 i t (by simpa using hi)
      exact ⟨off, by rw [← e1]; congr 1; omega, e2⟩
theorem xsw_e {dd : Prop} {x : Int32} : ∀ {ps : List Prop} {lo : Nat}, xsw dd x lo ps → (∃ j P, ps[j]? = some P ∧ x = nI (lo + j) ∧ P) ∨ ((∀ j, j < ps.length → ¬ x = nI (lo + j)) ∧ dd)
  | [], lo, h => Or.inr ⟨fun j hj => by simp at hj, h⟩
  | P :: ps, lo, h => by
    by_cases e : x = nI lo
    · exact Or.inl ⟨0, P, rfl, by simpa using e, h.1 e⟩
    · rcases xsw_e (h.2 e) with ⟨j, P', h1, h2, h3⟩ | ⟨h1, h2⟩
      · exact Or.inl ⟨j + 1, P', by simpa using h1, by rw [h2]; congr 1; omega, h3⟩
      · refine Or.inr ⟨fun j hj => ?_, h2⟩
        cases j with
        | zero => simpa using e
        | succ j =>
          have := h1 j (by simp only [List.length_cons] at hj; omega)
          rwa [show lo + (j + 1) = lo + 1 + j by omega]
theorem x_ra {C : String} {s : State} {a b : ClassId} (h1 : va_RA s a (.object C)) (h2 : va_RA s b (.object C)) : a = b := by
  obtain ⟨_, _, -, -, -, e1⟩ := h1
  obtain ⟨_, _, -, -, -, e2⟩ := h2
  exact Option.some.inj (e1.symm.trans e2)
theorem x_up {ad : Nat → Nat} {n q : Nat} (hn : n < 1000) : ∀ i, i < n ∨ 1000 ≤ i → va_up ad n q i = ad i := fun i hi => va_up_ne _ _ (by omega)
theorem xw_new {cy : Nat → ClassId} {ad : Nat → Nat} {h : xH} {q : Nat} {z : xC} (hn : h.length < 1000) (hw : xwH h.length h) (hz : xe cy (va_up ad h.length q) z = xe cy ad z) : xw cy (va_up ad h.length q) (h ++ [z]) = xw cy ad h ++ [(q, xe cy ad z)] := by
  rw [← xw_push, xw_eq (x_up hn) hw, hz, va_up_self]
set_option maxHeartbeats 8000000 in
set_option maxRecDepth 20000 in
theorem x_step {T : List xM} {KT : List (Nat × Nat)} {HT : List (Nat × Nat × Nat × Nat)} {d : Nat} {l : Launch} (hT : ∀ i q, T[i]? = some q → okM T KT HT i q = true) (hSd : xSound T l d) {p : Program} {e : Env} {R : Room} {s : State} {m : MethodId} {args : Array Value} {below : List Frame} {meth : Method} {c : Code} {y : MethodName} {cc : ByteArray} {nL : Nat} {ret : Option FieldType} {D : va_G} {cy : Nat → ClassId} {A : Nat → Prop} {ad0 : Nat → Nat} {n0 : Nat} {al : Bool} {mc ms : Nat} {bl : List xB} {Qm : State → Prop} {Q : Option Value → xH → Prop} {X : Nat → xH → Prop} {K : xK} {sc : Option (List Int32)}
    (C : xCtx p l s m args meth c y cc nL ret D cy A (ad0 1000)) (hR : xR (d + 1) R) (hmc : mc ≤ R.cells) (hms : ms ≤ R.slots)
    (hsc : ∀ lst, sc = some lst → va_X (ad0 1001) lst.length (fun j => lst.getD j 0) s s.heap ∧ ad0 1001 < s.heap.size ∧ ¬ A (ad0 1001))
    (hEnd : ∀ (ins : Instr) (pc : Nat) (v : Option Value) (h : xH) (cs ss : Nat) (L : xL), decode cc pc = .ok (ins, 1) → xrt ret ins v → cs ≤ mc → ss ≤ ms → Q v h → xW p l e R s m args below meth c Qm D cy A ad0 n0 al nL mc ms pc L v.toList h cs ss)
    (hThr : ∀ (ik pc r1 : Nat) (es : List xE) (h : xH) (cs ss : Nat) (L : xL) (st : List Value), decode cc pc = .ok (.new ik, 3) → okT cc y.cls r1 pc ik es = true → st.length ≤ 4 → cs + 1 ≤ mc → ss + 6 ≤ ms → X r1 h → xW p l e R s m args below meth c Qm D cy A ad0 n0 al nL mc ms pc L st h cs ss)
    (hK : ∀ (b : Nat) (B : xB) (L : xL) (st : List Value) (h : xH) (cs ss : Nat), bl[b]? = some B → K b L st h cs ss → xW p l e R s m args below meth c Qm D cy A ad0 n0 al nL mc ms B.1 L st h cs ss) (nx : Nat) :
    ∀ (es : List xE) (pc : Nat) (L : xL) (st : List Value) (h : xH) (cs ss : Nat), okEs T KT y cc bl nx pc es = true → wpI sc (fun M' a' h' Q' => Ev T d M' a' h' Q' (fun _ _ => False)) ret mc ms al Q X K nx es L st h cs ss → xW p l e R s m args below meth c Qm D cy A ad0 n0 al nL mc ms pc L st h cs ss := by
  intro es
  obtain ⟨hx, hb, hr, hml, hown, hts, hlocks, hnm, hex, hK0, hA, hG, hfl⟩ := id C
  have hw_ : ∀ w, xin w = true → w.before args s = true := fun w h => hts w (xin_e h)
  induction es with
  | nil =>
    intro pc L st h cs ss hok hw
    obtain ⟨B, h1, h2⟩ := okA_e hok
    have h3 : pc = B.1 := by omega
    rw [h3]
    exact hK nx B L st h cs ss h1 hw
  | cons q es ih =>
    obtain ⟨ins, len, r1, r2, v, tb⟩ := q
    intro pc L st h cs ss hok hw
    obtain ⟨hd, hi, ho⟩ := x_and3 hok
    replace hd := of_decide_eq_true hd
    replace hw : xop sc (fun M' a' h' Q' => Ev T d M' a' h' Q' (fun _ _ => False)) ret mc ms al Q X K ins r1 r2 v tb L st h cs ss (wpI sc (fun M' a' h' Q' => Ev T d M' a' h' Q' (fun _ _ => False)) ret mc ms al Q X K nx es) := hw
    generalize wpI sc (fun M' a' h' Q' => Ev T d M' a' h' Q' (fun _ _ => False)) ret mc ms al Q X K nx es = go at hw ih
    cases ins
    case iconst n =>
      dsimp only [xop] at hw
      obtain ⟨hi1, hi2⟩ := x_and2 hi
      obtain rfl : len = 1 := of_decide_eq_true hi1
      have hv := of_decide_eq_true hi2
      subst hv
      intro hc hs ad H locs ls hn had hal hL hl hP hD hS
      exact lv_iconst hx hb hd rfl (ih _ _ _ _ _ _ ho hw hc hs ad H locs ls hn had hal hL hl hP hD hS)
    case bipush n =>
      dsimp only [xop] at hw
      obtain ⟨hi1, hi2⟩ := x_and2 hi
      obtain rfl : len = 2 := of_decide_eq_true hi1
      have hv := of_decide_eq_true hi2
      subst hv
      intro hc hs ad H locs ls hn had hal hL hl hP hD hS
      exact lv_bipush hx hb hd rfl (ih _ _ _ _ _ _ ho hw hc hs ad H locs ls hn had hal hL hl hP hD hS)
    case sipush n =>
      dsimp only [xop] at hw
      obtain ⟨hi1, hi2⟩ := x_and2 hi
      obtain rfl : len = 3 := of_decide_eq_true hi1
      have hv := of_decide_eq_true hi2
      subst hv
      intro hc hs ad H locs ls hn had hal hL hl hP hD hS
      exact lv_sipush hx hb hd rfl (ih _ _ _ _ _ _ ho hw hc hs ad H locs ls hn had hal hL hl hP hD hS)
    case lconst n =>
      dsimp only [xop] at hw
      obtain ⟨hi1, hi2⟩ := x_and2 hi
      obtain rfl : len = 1 := of_decide_eq_true hi1
      have hv := of_decide_eq_true hi2
      subst hv
      intro hc hs ad H locs ls hn had hal hL hl hP hD hS
      exact lv_lconst hx hb hd rfl (ih _ _ _ _ _ _ ho hw hc hs ad H locs ls hn had hal hL hl hP hD hS)
    case fconst n =>
      dsimp only [xop] at hw
      obtain ⟨hi1, hi2⟩ := x_and2 hi
      obtain rfl : len = 1 := of_decide_eq_true hi1
      intro hc hs ad H locs ls hn had hal hL hl hP hD hS
      rcases (Bool.or_eq_true _ _).mp hi2 with hi2 | hi2
      · obtain ⟨h1, h2⟩ := x_and2 hi2
        have h1 := of_decide_eq_true h1
        have h2 := of_decide_eq_true h2
        subst h1; subst h2
        exact lv_fconst0 hx hb hd (ih _ _ _ _ _ _ ho hw hc hs ad H locs ls hn had hal hL hl hP hD hS)
      · obtain ⟨h1, h2⟩ := x_and2 hi2
        have h1 := of_decide_eq_true h1
        have h2 := of_decide_eq_true h2
        subst h1; subst h2
        exact lv_fconst1 hx hb hd (ih _ _ _ _ _ _ ho hw hc hs ad H locs ls hn had hal hL hl hP hD hS)
    case dconst n =>
      dsimp only [xop] at hw
      obtain ⟨hi1, hi2⟩ := x_and2 hi
      obtain rfl : len = 1 := of_decide_eq_true hi1
      intro hc hs ad H locs ls hn had hal hL hl hP hD hS
      rcases (Bool.or_eq_true _ _).mp hi2 with hi2 | hi2
      · obtain ⟨h1, h2⟩ := x_and2 hi2
        have h1 := of_decide_eq_true h1
        have h2 := of_decide_eq_true h2
        subst h1; subst h2
        exact lv_dconst0 hx hb hd (ih _ _ _ _ _ _ ho hw hc hs ad H locs ls hn had hal hL hl hP hD hS)
      · obtain ⟨h1, h2⟩ := x_and2 hi2
        have h1 := of_decide_eq_true h1
        have h2 := of_decide_eq_true h2
        subst h1; subst h2
        exact lv_dconst1 hx hb hd (ih _ _ _ _ _ _ ho hw hc hs ad H locs ls hn had hal hL hl hP hD hS)
    case ldc n =>
      dsimp only [xop] at hw
      obtain ⟨hi1, hi2⟩ := x_and2 hi
      obtain rfl : len = 2 := of_decide_eq_true hi1
      intro hc hs ad H locs ls hn had hal hL hl hP hD hS
      cases v
      case int => exact lv_ldc hx hb hown (hw_ (.constant _ _ _) hi2) hd (ih _ _ _ _ _ _ ho hw hc hs ad H locs ls hn had hal hL hl hP hD hS)
      all_goals exact absurd hi2 Bool.false_ne_true
    case ldc_w n =>
      dsimp only [xop] at hw
      obtain ⟨hi1, hi2⟩ := x_and2 hi
      obtain rfl : len = 3 := of_decide_eq_true hi1
      intro hc hs ad H locs ls hn had hal hL hl hP hD hS
      cases v
      case int => exact lv_ldcw hx hb hown (hw_ (.constant _ _ _) hi2) hd (ih _ _ _ _ _ _ ho hw hc hs ad H locs ls hn had hal hL hl hP hD hS)
      all_goals exact absurd hi2 Bool.false_ne_true
    case ldc2_w n =>
      dsimp only [xop] at hw
      obtain ⟨hi1, hi2⟩ := x_and2 hi
      obtain rfl : len = 3 := of_decide_eq_true hi1
      intro hc hs ad H locs ls hn had hal hL hl hP hD hS
      cases v
      case long => exact lv_ldc2 hx hb hown (hw_ (.constantLong _ _ _) hi2) hd (ih _ _ _ _ _ _ ho hw hc hs ad H locs ls hn had hal hL hl hP hD hS)
      case double => exact lv_ldc2d hx hb hown (hw_ (.constantDouble _ _ _) hi2) hd (ih _ _ _ _ _ _ ho hw hc hs ad H locs ls hn had hal hL hl hP hD hS)
      all_goals exact absurd hi2 Bool.false_ne_true
    case iload_n k =>
      dsimp only [xop] at hw
      obtain rfl : len = 1 := of_decide_eq_true hi
      obtain ⟨x, hg, hw1⟩ := xli_e hw
      intro hc hs ad H locs ls hn had hal hL hl hP hD hS
      exact lv_iload_n hx hb hd rfl (xps_at hl hg) (ih _ _ _ _ _ _ ho hw1 hc hs ad H locs ls hn had hal hL hl hP hD hS)
    case iload k =>
      dsimp only [xop] at hw
      obtain rfl : len = 2 := of_decide_eq_true hi
      obtain ⟨x, hg, hw1⟩ := xli_e hw
      intro hc hs ad H locs ls hn had hal hL hl hP hD hS
      exact lv_iload hx hb hd (xps_at hl hg) (ih _ _ _ _ _ _ ho hw1 hc hs ad H locs ls hn had hal hL hl hP hD hS)
    case lload_n k =>
      dsimp only [xop] at hw
      obtain rfl : len = 1 := of_decide_eq_true hi
      obtain ⟨x, hg, hw1⟩ := xlj_e hw
      intro hc hs ad H locs ls hn had hal hL hl hP hD hS
      exact lv_lload_n hx hb hd rfl (xps_at hl hg) (ih _ _ _ _ _ _ ho hw1 hc hs ad H locs ls hn had hal hL hl hP hD hS)
    case lload k =>
      dsimp only [xop] at hw
      obtain rfl : len = 2 := of_decide_eq_true hi
      obtain ⟨x, hg, hw1⟩ := xlj_e hw
      intro hc hs ad H locs ls hn had hal hL hl hP hD hS
      exact lv_lload hx hb hd (xps_at hl hg) (ih _ _ _ _ _ _ ho hw1 hc hs ad H locs ls hn had hal hL hl hP hD hS)
    case fload_n k =>
      dsimp only [xop] at hw
      obtain rfl : len = 1 := of_decide_eq_true hi
      obtain ⟨x, hg, hw1⟩ := xlf_e hw
      intro hc hs ad H locs ls hn had hal hL hl hP hD hS
      exact lv_fload_n hx hb hd rfl (xps_at hl hg) (ih _ _ _ _ _ _ ho hw1 hc hs ad H locs ls hn had hal hL hl hP hD hS)
    case fload k =>
      dsimp only [xop] at hw
      obtain rfl : len = 2 := of_decide_eq_true hi
      obtain ⟨x, hg, hw1⟩ := xlf_e hw
      intro hc hs ad H locs ls hn had hal hL hl hP hD hS
      exact lv_fload hx hb hd (xps_at hl hg) (ih _ _ _ _ _ _ ho hw1 hc hs ad H locs ls hn had hal hL hl hP hD hS)
    case dload_n k =>
      dsimp only [xop] at hw
      obtain rfl : len = 1 := of_decide_eq_true hi
      obtain ⟨x, hg, hw1⟩ := xld_e hw
      intro hc hs ad H locs ls hn had hal hL hl hP hD hS
      exact lv_dload_n hx hb hd rfl (xps_at hl hg) (ih _ _ _ _ _ _ ho hw1 hc hs ad H locs ls hn had hal hL hl hP hD hS)
    case dload k =>
      dsimp only [xop] at hw
      obtain rfl : len = 2 := of_decide_eq_true hi
      obtain ⟨x, hg, hw1⟩ := xld_e hw
      intro hc hs ad H locs ls hn had hal hL hl hP hD hS
      exact lv_dload hx hb hd (xps_at hl hg) (ih _ _ _ _ _ _ ho hw1 hc hs ad H locs ls hn had hal hL hl hP hD hS)
    case aload_n k =>
      dsimp only [xop] at hw
      obtain rfl : len = 1 := of_decide_eq_true hi
      obtain ⟨x, hg, hz, hw1⟩ := xla_e hw
      intro hc hs ad H locs ls hn had hal hL hl hP hD hS
      rcases hz with ⟨a, rfl⟩ | rfl
      · exact lv_aload_n hx hb hd rfl (xps_at hl hg) (ih _ _ _ _ _ _ ho hw1 hc hs ad H locs ls hn had hal hL hl hP hD hS)
      · exact lv_aload_nN hx hb hd rfl (xps_at hl hg) (ih _ _ _ _ _ _ ho hw1 hc hs ad H locs ls hn had hal hL hl hP hD hS)
    case aload k =>
      dsimp only [xop] at hw
      obtain rfl : len = 2 := of_decide_eq_true hi
      obtain ⟨x, hg, hz, hw1⟩ := xla_e hw
      intro hc hs ad H locs ls hn had hal hL hl hP hD hS
      rcases hz with ⟨a, rfl⟩ | rfl
      · exact lv_aload hx hb hd (xps_at hl hg) (ih _ _ _ _ _ _ ho hw1 hc hs ad H locs ls hn had hal hL hl hP hD hS)
      · exact lv_aloadN hx hb hd (xps_at hl hg) (ih _ _ _ _ _ _ ho hw1 hc hs ad H locs ls hn had hal hL hl hP hD hS)
    case istore_n k =>
      dsimp only [xop] at hw
      obtain rfl : len = 1 := of_decide_eq_true hi
      obtain ⟨x, st1, rfl, hw1⟩ := pI_e hw
      obtain ⟨hk, hw2⟩ := xst_e hw1
      intro hc hs ad H locs ls hn had hal hL hl hP hD hS
      exact lv_istore_n hx hb hd rfl hl (by rw [← hL]; exact hk) rfl (fun ls hl => ih _ _ _ _ _ _ ho hw2 hc hs ad H locs ls hn had hal ((xst_len _ _ _).trans hL) (xst_has (v := .int x) hl) hP hD hS)
    case istore k =>
      dsimp only [xop] at hw
      obtain rfl : len = 2 := of_decide_eq_true hi
      obtain ⟨x, st1, rfl, hw1⟩ := pI_e hw
      obtain ⟨hk, hw2⟩ := xst_e hw1
      intro hc hs ad H locs ls hn had hal hL hl hP hD hS
      exact lv_istore hx hb hd hl (by rw [← hL]; exact hk) rfl (fun ls hl => ih _ _ _ _ _ _ ho hw2 hc hs ad H locs ls hn had hal ((xst_len _ _ _).trans hL) (xst_has (v := .int x) hl) hP hD hS)
    case lstore_n k =>
      dsimp only [xop] at hw
      obtain rfl : len = 1 := of_decide_eq_true hi
      obtain ⟨x, st1, rfl, hw1⟩ := pJ_e hw
      obtain ⟨hk, hw2⟩ := xst_e hw1
      intro hc hs ad H locs ls hn had hal hL hl hP hD hS
      exact lv_lstore_n hx hb hd rfl hl (by rw [← hL]; exact hk) rfl (fun ls hl => ih _ _ _ _ _ _ ho hw2 hc hs ad H locs ls hn had hal ((xst2_len _ _ _ hk).trans hL) (xst2_has (v := .long x) hl) hP hD hS)
    case lstore k =>
      dsimp only [xop] at hw
      obtain rfl : len = 2 := of_decide_eq_true hi
      obtain ⟨x, st1, rfl, hw1⟩ := pJ_e hw
      obtain ⟨hk, hw2⟩ := xst_e hw1
      intro hc hs ad H locs ls hn had hal hL hl hP hD hS
      exact lv_lstore hx hb hd hl (by rw [← hL]; exact hk) rfl (fun ls hl => ih _ _ _ _ _ _ ho hw2 hc hs ad H locs ls hn had hal ((xst2_len _ _ _ hk).trans hL) (xst2_has (v := .long x) hl) hP hD hS)
    case dstore_n k =>
      dsimp only [xop] at hw
      obtain rfl : len = 1 := of_decide_eq_true hi
      obtain ⟨x, st1, rfl, hw1⟩ := pD_e hw
      obtain ⟨hk, hw2⟩ := xst_e hw1
      intro hc hs ad H locs ls hn had hal hL hl hP hD hS
      exact lv_dstore_n hx hb hd rfl hl (by rw [← hL]; exact hk) rfl (fun ls hl => ih _ _ _ _ _ _ ho hw2 hc hs ad H locs ls hn had hal ((xst2_len _ _ _ hk).trans hL) (xst2_has (v := .double x) hl) hP hD hS)
    case dstore k =>
      dsimp only [xop] at hw
      obtain rfl : len = 2 := of_decide_eq_true hi
      obtain ⟨x, st1, rfl, hw1⟩ := pD_e hw
      obtain ⟨hk, hw2⟩ := xst_e hw1
      intro hc hs ad H locs ls hn had hal hL hl hP hD hS
      exact lv_dstore hx hb hd hl (by rw [← hL]; exact hk) rfl (fun ls hl => ih _ _ _ _ _ _ ho hw2 hc hs ad H locs ls hn had hal ((xst2_len _ _ _ hk).trans hL) (xst2_has (v := .double x) hl) hP hD hS)
    case fstore k =>
      dsimp only [xop] at hw
      obtain rfl : len = 2 := of_decide_eq_true hi
      obtain ⟨x, st1, rfl, hw1⟩ := pF_e hw
      obtain ⟨hk, hw2⟩ := xst_e hw1
      intro hc hs ad H locs ls hn had hal hL hl hP hD hS
      exact lv_fstore hx hb hd hl (by rw [← hL]; exact hk) rfl (fun ls hl => ih _ _ _ _ _ _ ho hw2 hc hs ad H locs ls hn had hal ((xst_len _ _ _).trans hL) (xst_has (v := .float x) hl) hP hD hS)
    case astore_n k =>
      dsimp only [xop] at hw
      obtain rfl : len = 1 := of_decide_eq_true hi
      obtain ⟨x, st1, rfl, hz, hw1⟩ := pA_e hw
      obtain ⟨hk, hw2⟩ := xst_e hw1
      intro hc hs ad H locs ls hn had hal hL hl hP hD hS
      rcases hz with ⟨a, rfl⟩ | rfl
      · exact lv_astore_n hx hb hd rfl hl (by rw [← hL]; exact hk) rfl (fun ls hl => ih _ _ _ _ _ _ ho hw2 hc hs ad H locs ls hn had hal ((xst_len _ _ _).trans hL) (xst_has (v := .ref a) hl) hP hD hS)
      · exact lv_astore_nN hx hb hd rfl hl (by rw [← hL]; exact hk) rfl (fun ls hl => ih _ _ _ _ _ _ ho hw2 hc hs ad H locs ls hn had hal ((xst_len _ _ _).trans hL) (xst_has (v := .null) hl) hP hD hS)
    case astore k =>
      dsimp only [xop] at hw
      obtain rfl : len = 2 := of_decide_eq_true hi
      obtain ⟨x, st1, rfl, hz, hw1⟩ := pA_e hw
      obtain ⟨hk, hw2⟩ := xst_e hw1
      intro hc hs ad H locs ls hn had hal hL hl hP hD hS
      rcases hz with ⟨a, rfl⟩ | rfl
      · exact lv_astore hx hb hd hl (by rw [← hL]; exact hk) rfl (fun ls hl => ih _ _ _ _ _ _ ho hw2 hc hs ad H locs ls hn had hal ((xst_len _ _ _).trans hL) (xst_has (v := .ref a) hl) hP hD hS)
      · exact lv_astoreN hx hb hd hl (by rw [← hL]; exact hk) rfl (fun ls hl => ih _ _ _ _ _ _ ho hw2 hc hs ad H locs ls hn had hal ((xst_len _ _ _).trans hL) (xst_has (v := .null) hl) hP hD hS)
    case iinc k n =>
      dsimp only [xop] at hw
      obtain ⟨hi1, hi2⟩ := x_and2 hi
      obtain rfl : len = 3 := of_decide_eq_true hi1
      have hv := of_decide_eq_true hi2
      subst hv
      obtain ⟨x, hg, hw1⟩ := xli_e hw
      obtain ⟨hk, hw2⟩ := xst_e (L := L) (n := k) hw1
      intro hc hs ad H locs ls hn had hal hL hl hP hD hS
      obtain ⟨j, hj⟩ := List.getElem?_of_mem (xps_mem (ad := ad).mpr ⟨.int x, xlg_at L k _ hg, rfl⟩)
      exact lv_iinc hx hb hd hl hj rfl (by rw [← hL]; exact hk) rfl (fun ls hl => ih _ _ _ _ _ _ ho hw2 hc hs ad H locs ls hn had hal ((xst_len _ _ _).trans hL) (xst_has (v := .int (x + Int32.ofInt n)) hl) hP hD hS)
    case iadd =>
      dsimp only [xop] at hw
      obtain rfl : len = 1 := of_decide_eq_true hi
      obtain ⟨y1, st1, rfl, hw1⟩ := pI_e hw
      obtain ⟨x1, st2, rfl, hw2⟩ := pI_e hw1
      intro hc hs ad H locs ls hn had hal hL hl hP hD hS
      exact lv_iadd hx hb hd (ih _ _ _ _ _ _ ho hw2 hc hs ad H locs ls hn had hal hL hl hP hD hS)
    case isub =>
      dsimp only [xop] at hw
      obtain rfl : len = 1 := of_decide_eq_true hi
      obtain ⟨y1, st1, rfl, hw1⟩ := pI_e hw
      obtain ⟨x1, st2, rfl, hw2⟩ := pI_e hw1
      intro hc hs ad H locs ls hn had hal hL hl hP hD hS
      exact lv_isub hx hb hd (ih _ _ _ _ _ _ ho hw2 hc hs ad H locs ls hn had hal hL hl hP hD hS)
    case imul =>
      dsimp only [xop] at hw
      obtain rfl : len = 1 := of_decide_eq_true hi
      obtain ⟨y1, st1, rfl, hw1⟩ := pI_e hw
      obtain ⟨x1, st2, rfl, hw2⟩ := pI_e hw1
      intro hc hs ad H locs ls hn had hal hL hl hP hD hS
      exact lv_imul hx hb hd (ih _ _ _ _ _ _ ho hw2 hc hs ad H locs ls hn had hal hL hl hP hD hS)
    case iand =>
      dsimp only [xop] at hw
      obtain rfl : len = 1 := of_decide_eq_true hi
      obtain ⟨y1, st1, rfl, hw1⟩ := pI_e hw
      obtain ⟨x1, st2, rfl, hw2⟩ := pI_e hw1
      intro hc hs ad H locs ls hn had hal hL hl hP hD hS
      exact lv_iand hx hb hd (ih _ _ _ _ _ _ ho hw2 hc hs ad H locs ls hn had hal hL hl hP hD hS)
    case ior =>
      dsimp only [xop] at hw
      obtain rfl : len = 1 := of_decide_eq_true hi
      obtain ⟨y1, st1, rfl, hw1⟩ := pI_e hw
      obtain ⟨x1, st2, rfl, hw2⟩ := pI_e hw1
      intro hc hs ad H locs ls hn had hal hL hl hP hD hS
      exact lv_ior hx hb hd (ih _ _ _ _ _ _ ho hw2 hc hs ad H locs ls hn had hal hL hl hP hD hS)
    case ixor =>
      dsimp only [xop] at hw
      obtain rfl : len = 1 := of_decide_eq_true hi
      obtain ⟨y1, st1, rfl, hw1⟩ := pI_e hw
      obtain ⟨x1, st2, rfl, hw2⟩ := pI_e hw1
      intro hc hs ad H locs ls hn had hal hL hl hP hD hS
      exact lv_ixor hx hb hd (ih _ _ _ _ _ _ ho hw2 hc hs ad H locs ls hn had hal hL hl hP hD hS)
    case ishl =>
      dsimp only [xop] at hw
      obtain rfl : len = 1 := of_decide_eq_true hi
      obtain ⟨y1, st1, rfl, hw1⟩ := pI_e hw
      obtain ⟨x1, st2, rfl, hw2⟩ := pI_e hw1
      intro hc hs ad H locs ls hn had hal hL hl hP hD hS
      exact lv_ishl hx hb hd (ih _ _ _ _ _ _ ho hw2 hc hs ad H locs ls hn had hal hL hl hP hD hS)
    case ishr =>
      dsimp only [xop] at hw
      obtain rfl : len = 1 := of_decide_eq_true hi
      obtain ⟨y1, st1, rfl, hw1⟩ := pI_e hw
      obtain ⟨x1, st2, rfl, hw2⟩ := pI_e hw1
      intro hc hs ad H locs ls hn had hal hL hl hP hD hS
      exact lv_ishr hx hb hd (ih _ _ _ _ _ _ ho hw2 hc hs ad H locs ls hn had hal hL hl hP hD hS)
    case iushr =>
      dsimp only [xop] at hw
      obtain rfl : len = 1 := of_decide_eq_true hi
      obtain ⟨y1, st1, rfl, hw1⟩ := pI_e hw
      obtain ⟨x1, st2, rfl, hw2⟩ := pI_e hw1
      intro hc hs ad H locs ls hn had hal hL hl hP hD hS
      exact lv_iushr hx hb hd rfl (ih _ _ _ _ _ _ ho hw2 hc hs ad H locs ls hn had hal hL hl hP hD hS)
    case idiv =>
      dsimp only [xop] at hw
      obtain rfl : len = 1 := of_decide_eq_true hi
      obtain ⟨y1, st1, rfl, hw1⟩ := pI_e hw
      obtain ⟨x1, st2, rfl, hne, hw2⟩ := pI_e hw1
      intro hc hs ad H locs ls hn had hal hL hl hP hD hS
      exact lv_idiv hx hb hd hne (ih _ _ _ _ _ _ ho hw2 hc hs ad H locs ls hn had hal hL hl hP hD hS)
    case irem =>
      dsimp only [xop] at hw
      obtain rfl : len = 1 := of_decide_eq_true hi
      obtain ⟨y1, st1, rfl, hw1⟩ := pI_e hw
      obtain ⟨x1, st2, rfl, hne, hw2⟩ := pI_e hw1
      intro hc hs ad H locs ls hn had hal hL hl hP hD hS
      exact lv_irem hx hb hd hne (ih _ _ _ _ _ _ ho hw2 hc hs ad H locs ls hn had hal hL hl hP hD hS)
    case lshl =>
      dsimp only [xop] at hw
      obtain rfl : len = 1 := of_decide_eq_true hi
      obtain ⟨y1, st1, rfl, hw1⟩ := pI_e hw
      obtain ⟨x1, st2, rfl, hw2⟩ := pJ_e hw1
      intro hc hs ad H locs ls hn had hal hL hl hP hD hS
      exact lv_lshl hx hb hd rfl (ih _ _ _ _ _ _ ho hw2 hc hs ad H locs ls hn had hal hL hl hP hD hS)
    case ladd =>
      dsimp only [xop] at hw
      obtain rfl : len = 1 := of_decide_eq_true hi
      obtain ⟨y1, st1, rfl, hw1⟩ := pJ_e hw
      obtain ⟨x1, st2, rfl, hw2⟩ := pJ_e hw1
      intro hc hs ad H locs ls hn had hal hL hl hP hD hS
      exact lv_ladd hx hb hd (ih _ _ _ _ _ _ ho hw2 hc hs ad H locs ls hn had hal hL hl hP hD hS)
    case lmul =>
      dsimp only [xop] at hw
      obtain rfl : len = 1 := of_decide_eq_true hi
      obtain ⟨y1, st1, rfl, hw1⟩ := pJ_e hw
      obtain ⟨x1, st2, rfl, hw2⟩ := pJ_e hw1
      intro hc hs ad H locs ls hn had hal hL hl hP hD hS
      exact lv_lmul hx hb hd (ih _ _ _ _ _ _ ho hw2 hc hs ad H locs ls hn had hal hL hl hP hD hS)
    case lcmp =>
      dsimp only [xop] at hw
      obtain rfl : len = 1 := of_decide_eq_true hi
      obtain ⟨y1, st1, rfl, hw1⟩ := pJ_e hw
      obtain ⟨x1, st2, rfl, hw2⟩ := pJ_e hw1
      intro hc hs ad H locs ls hn had hal hL hl hP hD hS
      exact W.lcmp hx hb hd (ih _ _ _ _ _ _ ho hw2 hc hs ad H locs ls hn had hal hL hl hP hD hS)
    case fcmp op =>
      dsimp only [xop] at hw
      obtain rfl : len = 1 := of_decide_eq_true hi
      obtain ⟨y1, st1, rfl, hw1⟩ := pF_e hw
      obtain ⟨x1, st2, rfl, hw2⟩ := pF_e hw1
      intro hc hs ad H locs ls hn had hal hL hl hP hD hS
      exact lv_fcmp hx hb hd (ih _ _ _ _ _ _ ho hw2 hc hs ad H locs ls hn had hal hL hl hP hD hS)
    case dcmp op =>
      dsimp only [xop] at hw
      obtain rfl : len = 1 := of_decide_eq_true hi
      obtain ⟨y1, st1, rfl, hw1⟩ := pD_e hw
      obtain ⟨x1, st2, rfl, hw2⟩ := pD_e hw1
      intro hc hs ad H locs ls hn had hal hL hl hP hD hS
      exact lv_dcmp hx hb hd (ih _ _ _ _ _ _ ho hw2 hc hs ad H locs ls hn had hal hL hl hP hD hS)
    case i2l =>
      dsimp only [xop] at hw
      obtain rfl : len = 1 := of_decide_eq_true hi
      obtain ⟨x1, st1, rfl, hw1⟩ := pI_e hw
      intro hc hs ad H locs ls hn had hal hL hl hP hD hS
      exact lv_i2l hx hb hd rfl (ih _ _ _ _ _ _ ho hw1 hc hs ad H locs ls hn had hal hL hl hP hD hS)
    case i2f =>
      dsimp only [xop] at hw
      obtain rfl : len = 1 := of_decide_eq_true hi
      obtain ⟨x1, st1, rfl, hw1⟩ := pI_e hw
      intro hc hs ad H locs ls hn had hal hL hl hP hD hS
      exact lv_i2f hx hb hd (ih _ _ _ _ _ _ ho hw1 hc hs ad H locs ls hn had hal hL hl hP hD hS)
    case i2d =>
      dsimp only [xop] at hw
      obtain rfl : len = 1 := of_decide_eq_true hi
      obtain ⟨x1, st1, rfl, hw1⟩ := pI_e hw
      intro hc hs ad H locs ls hn had hal hL hl hP hD hS
      exact lv_i2d hx hb hd (ih _ _ _ _ _ _ ho hw1 hc hs ad H locs ls hn had hal hL hl hP hD hS)
    case i2c =>
      dsimp only [xop] at hw
      obtain rfl : len = 1 := of_decide_eq_true hi
      obtain ⟨x1, st1, rfl, hw1⟩ := pI_e hw
      intro hc hs ad H locs ls hn had hal hL hl hP hD hS
      exact lv_i2c hx hb hd rfl (ih _ _ _ _ _ _ ho hw1 hc hs ad H locs ls hn had hal hL hl hP hD hS)
    case l2d =>
      dsimp only [xop] at hw
      obtain rfl : len = 1 := of_decide_eq_true hi
      obtain ⟨x1, st1, rfl, hw1⟩ := pJ_e hw
      intro hc hs ad H locs ls hn had hal hL hl hP hD hS
      exact lv_l2d hx hb hd (ih _ _ _ _ _ _ ho hw1 hc hs ad H locs ls hn had hal hL hl hP hD hS)
    case d2l =>
      dsimp only [xop] at hw
      obtain rfl : len = 1 := of_decide_eq_true hi
      obtain ⟨x1, st1, rfl, hw1⟩ := pD_e hw
      intro hc hs ad H locs ls hn had hal hL hl hP hD hS
      exact lv_d2l hx hb hd (ih _ _ _ _ _ _ ho hw1 hc hs ad H locs ls hn had hal hL hl hP hD hS)
    case f2d =>
      dsimp only [xop] at hw
      obtain rfl : len = 1 := of_decide_eq_true hi
      obtain ⟨x1, st1, rfl, hne, hw1⟩ := pF_e hw
      intro hc hs ad H locs ls hn had hal hL hl hP hD hS
      exact lv_f2d hx hb hd hne (ih _ _ _ _ _ _ ho hw1 hc hs ad H locs ls hn had hal hL hl hP hD hS)
    case dsub =>
      dsimp only [xop] at hw
      obtain rfl : len = 1 := of_decide_eq_true hi
      obtain ⟨y1, st1, rfl, hw1⟩ := pD_e hw
      obtain ⟨x1, st2, rfl, hne, hw2⟩ := pD_e hw1
      intro hc hs ad H locs ls hn had hal hL hl hP hD hS
      exact lv_dsub hx hb hd hne (ih _ _ _ _ _ _ ho hw2 hc hs ad H locs ls hn had hal hL hl hP hD hS)
    case dmul =>
      dsimp only [xop] at hw
      obtain rfl : len = 1 := of_decide_eq_true hi
      obtain ⟨y1, st1, rfl, hw1⟩ := pD_e hw
      obtain ⟨x1, st2, rfl, hne, hw2⟩ := pD_e hw1
      intro hc hs ad H locs ls hn had hal hL hl hP hD hS
      exact lv_dmul hx hb hd hne (ih _ _ _ _ _ _ ho hw2 hc hs ad H locs ls hn had hal hL hl hP hD hS)
    case ddiv =>
      dsimp only [xop] at hw
      obtain rfl : len = 1 := of_decide_eq_true hi
      obtain ⟨y1, st1, rfl, hw1⟩ := pD_e hw
      obtain ⟨x1, st2, rfl, hne, hw2⟩ := pD_e hw1
      intro hc hs ad H locs ls hn had hal hL hl hP hD hS
      exact lv_ddiv hx hb hd hne (ih _ _ _ _ _ _ ho hw2 hc hs ad H locs ls hn had hal hL hl hP hD hS)
    case fdiv =>
      dsimp only [xop] at hw
      obtain rfl : len = 1 := of_decide_eq_true hi
      obtain ⟨y1, st1, rfl, hw1⟩ := pF_e hw
      obtain ⟨x1, st2, rfl, hne, hw2⟩ := pF_e hw1
      intro hc hs ad H locs ls hn had hal hL hl hP hD hS
      exact lv_fdiv hx hb hd hne (ih _ _ _ _ _ _ ho hw2 hc hs ad H locs ls hn had hal hL hl hP hD hS)
    case dup =>
      dsimp only [xop] at hw
      obtain rfl : len = 1 := of_decide_eq_true hi
      obtain ⟨x1, st1, rfl, hcat, hw1⟩ := p1_e hw
      intro hc hs ad H locs ls hn had hal hL hl hP hD hS
      exact lv_dup hx hb hd ((cv_cat ad x1).trans hcat) (ih _ _ _ _ _ _ ho hw1 hc hs ad H locs ls hn had hal hL hl hP hD hS)
    case pop =>
      dsimp only [xop] at hw
      obtain rfl : len = 1 := of_decide_eq_true hi
      obtain ⟨x1, st1, rfl, hcat, hw1⟩ := p1_e hw
      intro hc hs ad H locs ls hn had hal hL hl hP hD hS
      exact lv_pop hx hb hd ((cv_cat ad x1).trans hcat) (ih _ _ _ _ _ _ ho hw1 hc hs ad H locs ls hn had hal hL hl hP hD hS)
    case dup2 =>
      dsimp only [xop] at hw
      obtain rfl : len = 1 := of_decide_eq_true hi
      obtain ⟨x1, st1, rfl, hcat, hw1⟩ := p1_e hw
      obtain ⟨y1, st2, rfl, hcat2, hw2⟩ := p1_e hw1
      intro hc hs ad H locs ls hn had hal hL hl hP hD hS
      exact lv_dup2_11 hx hb hd ((cv_cat ad x1).trans hcat) ((cv_cat ad y1).trans hcat2) (ih _ _ _ _ _ _ ho hw2 hc hs ad H locs ls hn had hal hL hl hP hD hS)
    case goto off =>
      dsimp only [xop] at hw
      obtain ⟨hi1, hi2⟩ := x_and2 hi
      obtain rfl : len = 3 := of_decide_eq_true hi1
      obtain ⟨B, h1, h2⟩ := okA_e hi2
      intro hc hs ad H locs ls hn had hal hL hl hP hD hS
      exact lv_goto hx hb hd h2 (hK r1 B _ _ _ _ _ h1 hw hc hs ad H locs ls hn had hal hL hl hP hD hS)
    case ifCond op off =>
      dsimp only [xop] at hw
      obtain ⟨hi1, hi2⟩ := x_and2 hi
      obtain rfl : len = 3 := of_decide_eq_true hi1
      obtain ⟨B, h1, h2⟩ := okA_e hi2
      obtain ⟨x1, st1, rfl, hw1⟩ := pI_e hw
      cases op
      · obtain ⟨w1, w2⟩ := hw1
        intro hc hs ad H locs ls hn had hal hL hl hP hD hS
        exact lv_if_eq hx hb hd h2 (fun z => hK r1 B _ _ _ _ _ h1 (w1 z) hc hs ad H locs ls hn had hal hL hl hP hD hS) (fun z => ih _ _ _ _ _ _ ho (w2 z) hc hs ad H locs ls hn had hal hL hl hP hD hS)
      · obtain ⟨w1, w2⟩ := hw1
        intro hc hs ad H locs ls hn had hal hL hl hP hD hS
        exact lv_if_ne hx hb hd h2 (fun z => hK r1 B _ _ _ _ _ h1 (w1 z) hc hs ad H locs ls hn had hal hL hl hP hD hS) (fun z => ih _ _ _ _ _ _ ho (w2 z) hc hs ad H locs ls hn had hal hL hl hP hD hS)
      · obtain ⟨w1, w2⟩ := hw1
        intro hc hs ad H locs ls hn had hal hL hl hP hD hS
        exact lv_if_lt hx hb hd h2 (fun z => hK r1 B _ _ _ _ _ h1 (w1 z) hc hs ad H locs ls hn had hal hL hl hP hD hS) (fun z => ih _ _ _ _ _ _ ho (w2 z) hc hs ad H locs ls hn had hal hL hl hP hD hS)
      · obtain ⟨w1, w2⟩ := hw1
        intro hc hs ad H locs ls hn had hal hL hl hP hD hS
        exact lv_if_ge hx hb hd h2 (fun z => hK r1 B _ _ _ _ _ h1 (w1 z) hc hs ad H locs ls hn had hal hL hl hP hD hS) (fun z => ih _ _ _ _ _ _ ho (w2 z) hc hs ad H locs ls hn had hal hL hl hP hD hS)
      · obtain ⟨w1, w2⟩ := hw1
        intro hc hs ad H locs ls hn had hal hL hl hP hD hS
        exact lv_if_gt hx hb hd h2 (fun z => hK r1 B _ _ _ _ _ h1 (w1 z) hc hs ad H locs ls hn had hal hL hl hP hD hS) (fun z => ih _ _ _ _ _ _ ho (w2 z) hc hs ad H locs ls hn had hal hL hl hP hD hS)
      · obtain ⟨w1, w2⟩ := hw1
        intro hc hs ad H locs ls hn had hal hL hl hP hD hS
        exact lv_if_le hx hb hd h2 (fun z => hK r1 B _ _ _ _ _ h1 (w1 z) hc hs ad H locs ls hn had hal hL hl hP hD hS) (fun z => ih _ _ _ _ _ _ ho (w2 z) hc hs ad H locs ls hn had hal hL hl hP hD hS)
    case if_icmp op off =>
      dsimp only [xop] at hw
      obtain ⟨hi1, hi2⟩ := x_and2 hi
      obtain rfl : len = 3 := of_decide_eq_true hi1
      obtain ⟨B, h1, h2⟩ := okA_e hi2
      obtain ⟨y1, st1, rfl, hw1⟩ := pI_e hw
      obtain ⟨x1, st2, rfl, hw2⟩ := pI_e hw1
      cases op
      · obtain ⟨w1, w2⟩ := hw2
        intro hc hs ad H locs ls hn had hal hL hl hP hD hS
        exact lv_icmp_eq hx hb hd h2 (fun z => hK r1 B _ _ _ _ _ h1 (w1 z) hc hs ad H locs ls hn had hal hL hl hP hD hS) (fun z => ih _ _ _ _ _ _ ho (w2 z) hc hs ad H locs ls hn had hal hL hl hP hD hS)
      · obtain ⟨w1, w2⟩ := hw2
        intro hc hs ad H locs ls hn had hal hL hl hP hD hS
        exact lv_icmp_ne hx hb hd h2 (fun z => hK r1 B _ _ _ _ _ h1 (w1 z) hc hs ad H locs ls hn had hal hL hl hP hD hS) (fun z => ih _ _ _ _ _ _ ho (w2 z) hc hs ad H locs ls hn had hal hL hl hP hD hS)
      · obtain ⟨w1, w2⟩ := hw2
        intro hc hs ad H locs ls hn had hal hL hl hP hD hS
        exact lv_icmp_lt hx hb hd h2 (fun z => hK r1 B _ _ _ _ _ h1 (w1 z) hc hs ad H locs ls hn had hal hL hl hP hD hS) (fun z => ih _ _ _ _ _ _ ho (w2 z) hc hs ad H locs ls hn had hal hL hl hP hD hS)
      · obtain ⟨w1, w2⟩ := hw2
        intro hc hs ad H locs ls hn had hal hL hl hP hD hS
        exact lv_icmp_ge hx hb hd h2 (fun z => hK r1 B _ _ _ _ _ h1 (w1 z) hc hs ad H locs ls hn had hal hL hl hP hD hS) (fun z => ih _ _ _ _ _ _ ho (w2 z) hc hs ad H locs ls hn had hal hL hl hP hD hS)
      · obtain ⟨w1, w2⟩ := hw2
        intro hc hs ad H locs ls hn had hal hL hl hP hD hS
        exact lv_icmp_gt hx hb hd h2 (fun z => hK r1 B _ _ _ _ _ h1 (w1 z) hc hs ad H locs ls hn had hal hL hl hP hD hS) (fun z => ih _ _ _ _ _ _ ho (w2 z) hc hs ad H locs ls hn had hal hL hl hP hD hS)
      · obtain ⟨w1, w2⟩ := hw2
        intro hc hs ad H locs ls hn had hal hL hl hP hD hS
        exact lv_icmp_le hx hb hd h2 (fun z => hK r1 B _ _ _ _ _ h1 (w1 z) hc hs ad H locs ls hn had hal hL hl hP hD hS) (fun z => ih _ _ _ _ _ _ ho (w2 z) hc hs ad H locs ls hn had hal hL hl hP hD hS)
    case ifnonnull off =>
      dsimp only [xop] at hw
      obtain ⟨hi1, hi2⟩ := x_and2 hi
      obtain rfl : len = 3 := of_decide_eq_true hi1
      obtain ⟨B, h1, h2⟩ := okA_e hi2
      obtain ⟨x1, st1, rfl, hz, w1, w2⟩ := pA_e hw
      intro hc hs ad H locs ls hn had hal hL hl hP hD hS
      rcases hz with ⟨a, rfl⟩ | rfl
      · exact lv_ifnonnull hx hb hd h2 (hK r1 B _ _ _ _ _ h1 (w2 (fun z => by cases z)) hc hs ad H locs ls hn had hal hL hl hP hD hS)
      · exact lv_ifnonnullN hx hb hd (ih _ _ _ _ _ _ ho (w1 rfl) hc hs ad H locs ls hn had hal hL hl hP hD hS)
    case tableswitch dflt lo hi9 offs =>
      dsimp only [xop] at hw
      obtain ⟨hi, hi5⟩ := x_and2 hi
      obtain ⟨hi, hi4⟩ := x_and2 hi
      obtain ⟨hi1, hi2, hi3⟩ := x_and3 hi
      have hi1 := of_decide_eq_true hi1
      have hi2 := of_decide_eq_true hi2
      have hi3 := of_decide_eq_true hi3
      obtain ⟨x1, st1, rfl, hw1⟩ := pI_e hw
      intro hc hs ad H locs ls hn had hal hL hl hP hD hS
      rcases xsw_e hw1 with ⟨j, P, e1, e2, e3⟩ | ⟨e1, e2⟩
      · rw [List.getElem?_map] at e1
        cases hj : tb[j]? with
        | none => rw [hj] at e1; cases e1
        | some b =>
          rw [hj] at e1
          have e1 : K b L st1 h cs ss = P := Option.some.inj e1
          have hjl : j < tb.length := (List.getElem?_eq_some_iff.mp hj).1
          obtain ⟨off, o1, o2⟩ := okAs_e hi5 j b hj
          obtain ⟨B, h1, h2⟩ := okA_e o2
          have ht : x1.toInt = ((r2 + j : Nat) : Int) := by rw [e2]; exact nI_toInt (by omega)
          exact lv_tableIn hx hb hd (by omega) (by omega) (off := off) (by rw [← o1]; congr 1; omega) h2 (hK b B _ _ _ _ _ h1 (by rw [e1]; exact e3) hc hs ad H locs ls hn had hal hL hl hP hD hS)
      · obtain ⟨B, h1, h2⟩ := okA_e hi4
        refine lv_tableOut hx hb hd ?_ h2 (hK r1 B _ _ _ _ _ h1 e2 hc hs ad H locs ls hn had hal hL hl hP hD hS)
        rcases Classical.em (x1.toInt < lo ∨ hi9 < x1.toInt) with z | z
        · exact z
        · have z1 : ¬ x1.toInt < lo := fun q => z (Or.inl q)
          have z2 : ¬ hi9 < x1.toInt := fun q => z (Or.inr q)
          refine absurd (Int32.toInt_inj.mp ?_) (e1 (x1.toInt - lo).toNat (by rw [List.length_map]; omega))
          rw [nI_toInt (by omega)]
          omega
    case getstatic i =>
      dsimp only [xop] at hw
      obtain ⟨hi1, hi2⟩ := x_and2 hi
      obtain rfl : len = 3 := of_decide_eq_true hi1
      intro hc hs ad H locs ls hn had hal hL hl hP hD hS
      have e9 := had 1000 (Or.inr (Nat.le_refl _))
      refine va_gets hx hb hG.1 hS hown (hts _ (xlk_e hi2)) (fun _ h9 => h9) hd ?_
      rw [← e9]
      exact ih _ _ _ _ _ _ ho hw hc hs ad H locs ls hn had hal hL hl hP hD hS
    case getfield i =>
      dsimp only [xop] at hw
      obtain ⟨hi1, hi2⟩ := x_and2 hi
      obtain rfl : len = 3 := of_decide_eq_true hi1
      obtain ⟨a, st1, rfl, hw1⟩ := pR_e hw
      obtain ⟨l0, vs, he, hw2⟩ := xhv_e hw1
      cases hq : xCl[r1]? with
      | none => rw [hq] at hi2; cases hi2
      | some z =>
        rw [hq] at hi2
        obtain ⟨hk, hlk⟩ := x_and2 hi2
        have hk := of_decide_eq_true hk
        cases hv : vs[r2]? with
        | none => rw [hv] at hw2; exact hw2.elim
        | some x =>
          rw [hv] at hw2
          intro hc hs ad H locs ls hn had hal hL hl hP hD hS
          exact va_get (C := z.1) (T := z.2.1) (N := z.2.2) (ci := r1) (fs := vs.map (cv ad)) (v := cv ad x) hx hb hts (xcl_in r1 z hq) hown hK0 hP a (xw_at he) hq r2 hk (hts _ (xlk_e hlk)) (fun _ h9 => h9) (by rw [List.getElem?_map, hv]; rfl) hd (ih _ _ _ _ _ _ ho hw2 hc hs ad H locs ls hn had hal hL hl hP hD hS)
    case putfield i =>
      dsimp only [xop] at hw
      obtain ⟨hi1, hi2⟩ := x_and2 hi
      obtain rfl : len = 3 := of_decide_eq_true hi1
      obtain ⟨x, st0, rfl, hcat, hw1⟩ := p1_e hw
      obtain ⟨a, st1, rfl, hw2⟩ := pR_e hw1
      obtain ⟨l0, vs, he, hw3⟩ := xhv_e hw2
      split at hw3
      case h_2 => exact hw3.elim
      have hk2 : r2 < vs.length := (List.getElem?_eq_some_iff.mp (by assumption)).1
      cases hq : xCl[r1]? with
      | none => rw [hq] at hi2; cases hi2
      | some z =>
        rw [hq] at hi2
        obtain ⟨hi2, hfin⟩ := x_and2 hi2
        obtain ⟨hk, hlk, hty⟩ := x_and3 hi2
        have hk := of_decide_eq_true hk
        have hty := of_decide_eq_true hty
        intro hc hs ad H locs ls hn had hal hL hl hP hD hS
        rw [hty] at hw3
        obtain ⟨⟨n1, n2⟩, hw4⟩ := xfit_ok ad hw3
        have key : (xw cy ad h).set a (ad a, .inr (r1, (vs.map (cv ad)).set r2 (cv ad x))) = xw cy ad (h.set a (r1 + 5, [], vs.set r2 x)) := by rw [← List.map_set]; exact xw_set (q := (r1 + 5, [], vs.set r2 x))
        have hh : h.length = (h.set a (r1 + 5, [], vs.set r2 x)).length := List.length_set.symm
        cases hf9 : (z.2.1 r2).2.2.2 with
        | false =>
          exact va_put (C := z.1) (T := z.2.1) (N := z.2.2) (ci := r1) (fs := vs.map (cv ad)) (v := cv ad x) hx hb hts (xcl_in r1 z hq) (xTy r1) (xcl_ty r1 z hq) (xcl_nm r1 z hq) hown hK0 hP hD hS a (xw_at he) hq r2 hk (hts _ (xlk_e hlk)) (fun _ h9 => h9) hf9 (xcl_ty r1 z hq r2 hk) n1 n2 (by rw [List.length_map]; exact hk2) hd (fun H1 locs1 hP1 hD1 hS1 => by rw [key] at hP1 hD1; exact ih _ _ _ _ _ _ ho hw4 hc hs ad H1 locs1 ls (by rw [← hh]; exact hn) had hal hL hl hP1 hD1 hS1)
        | true =>
          rw [hf9] at hfin
          obtain ⟨f1, f2⟩ := x_and2 (show (decide (y.name = "<init>") && decide ((z.2.1 r2).1 = y.cls)) = true from hfin)
          exact va_putF (C := z.1) (T := z.2.1) (N := z.2.2) (ci := r1) (fs := vs.map (cv ad)) (v := cv ad x) hx hb hts (xcl_in r1 z hq) (xTy r1) (xcl_ty r1 z hq) (xcl_nm r1 z hq) hown hK0 hP hD hS a (xw_at he) hq r2 hk (hts _ (xlk_e hlk)) (fun _ h9 => h9) hf9 (hnm.trans (of_decide_eq_true f1)) (of_decide_eq_true f2) (xcl_ty r1 z hq r2 hk) n1 n2 (by rw [List.length_map]; exact hk2) hd (fun H1 locs1 hP1 hD1 hS1 => by rw [key] at hP1 hD1; exact ih _ _ _ _ _ _ ho hw4 hc hs ad H1 locs1 ls (by rw [← hh]; exact hn) had hal hL hl hP1 hD1 hS1)
    case iaload =>
      dsimp only [xop] at hw
      obtain rfl : len = 1 := of_decide_eq_true hi
      obtain ⟨i, st1, rfl, hw1⟩ := pI_e hw
      obtain ⟨a, st2, rfl, hw2⟩ := pR_e hw1
      intro hc hs ad H locs ls hn had hal hL hl hP hD hS
      unfold xai at hw2
      cases ea : a == 1000 with
      | true =>
        rw [ea] at hw2
        have ea := beq_iff_eq.mp ea
        subst ea
        have e9 := had 1000 (Or.inr (Nat.le_refl _))
        obtain ⟨hin, hw3⟩ := hw2
        have hT9 := hG.2.1
        rw [← e9] at hT9
        exact va_ti hx hb hT9 hS hin rfl hd (ih _ _ _ _ _ _ ho hw3 hc hs ad H locs ls hn had hal hL hl hP hD hS)
      | false =>
        rw [ea] at hw2
        cases eb : a == 1001 with
        | true =>
          rw [eb] at hw2
          have eb := beq_iff_eq.mp eb
          subst eb
          have e9 := had 1001 (Or.inr (by decide))
          cases hsc9 : sc with
          | none => rw [hsc9] at hw2; exact hw2.elim
          | some lst =>
            rw [hsc9] at hw2
            obtain ⟨hin, hw3⟩ := hw2
            obtain ⟨x1, x2, x3⟩ := hsc lst hsc9
            rw [← e9] at x1 x2 x3
            exact va_sld hx hb x1 x2 x3 hS hin hd (ih _ _ _ _ _ _ ho hw3 hc hs ad H locs ls hn had hal hL hl hP hD hS)
        | false =>
          rw [eb] at hw2
          dsimp only [cond_false] at hw2
          obtain ⟨l0, vs, he, hin, hw3⟩ := xhi_e hw2
          exact va_iald hx hb hK0 hP a 0 (xw_at he) rfl hin hd (ih _ _ _ _ _ _ ho hw3 hc hs ad H locs ls hn had hal hL hl hP hD hS)
    case caload =>
      dsimp only [xop] at hw
      obtain rfl : len = 1 := of_decide_eq_true hi
      obtain ⟨i, st1, rfl, hw1⟩ := pI_e hw
      obtain ⟨a, st2, rfl, hw2⟩ := pR_e hw1
      obtain ⟨l0, vs, he, hin, hw3⟩ := xhi_e hw2
      intro hc hs ad H locs ls hn had hal hL hl hP hD hS
      exact va_cald hx hb hK0 hP a 1 (xw_at he) rfl hin hd (ih _ _ _ _ _ _ ho hw3 hc hs ad H locs ls hn had hal hL hl hP hD hS)
    case baload =>
      dsimp only [xop] at hw
      obtain rfl : len = 1 := of_decide_eq_true hi
      obtain ⟨i, st1, rfl, hw1⟩ := pI_e hw
      obtain ⟨a, st2, rfl, hw2⟩ := pR_e hw1
      obtain ⟨l0, vs, he, hin, hw3⟩ := xhi_e hw2
      intro hc hs ad H locs ls hn had hal hL hl hP hD hS
      exact va_zald hx hb hK0 hP a 2 (xw_at he) rfl hin hd (ih _ _ _ _ _ _ ho hw3 hc hs ad H locs ls hn had hal hL hl hP hD hS)
    case aaload =>
      dsimp only [xop] at hw
      obtain rfl : len = 1 := of_decide_eq_true hi
      obtain ⟨i, st1, rfl, hw1⟩ := pI_e hw
      obtain ⟨a, st2, rfl, hw2⟩ := pR_e hw1
      obtain ⟨l0, vs, he, hin, hw3⟩ := xhv_e hw2
      intro hc hs ad H locs ls hn had hal hL hl hP hD hS
      have ev : cv ad (xrf (vs.getD i.toNatClampNeg .null)) = va_rf (xopt ad (vs.getD i.toNatClampNeg .null)) := by cases vs.getD i.toNatClampNeg .null <;> rfl
      have go := ih _ _ _ _ _ _ ho hw3 hc hs ad H locs ls hn had hal hL hl hP hD hS
      rw [List.map_cons, ev] at go
      exact va_aldq hx hb hK0 hP a 4 (C := RX2) (xw_at he) rfl hin hd go
    case iastore =>
      dsimp only [xop] at hw
      obtain rfl : len = 1 := of_decide_eq_true hi
      obtain ⟨x, st0, rfl, hw1⟩ := pI_e hw
      obtain ⟨i, st1, rfl, hw2⟩ := pI_e hw1
      obtain ⟨a, st2, rfl, hw3⟩ := pR_e hw2
      obtain ⟨l0, vs, he, hin, hw4⟩ := xhi_e hw3
      intro hc hs ad H locs ls hn had hal hL hl hP hD hS
      have hlt : i.toNatClampNeg < l0.length := Nat.not_le.mp fun q => hin (Or.inr q)
      have key : (xw cy ad h).set a (ad a, .inl (cy 0, l0.length, .inl (upd (fun j => l0.getD j 0) i.toNatClampNeg x))) = xw cy ad (h.set a (0, l0.set i.toNatClampNeg x, [])) := by
        rw [xset_eq hlt, ← xw_set (q := (0, l0.set i.toNatClampNeg x, []))]
        show _ = (xw cy ad h).set a (ad a, .inl (cy 0, (l0.set i.toNatClampNeg x).length, .inl _))
        rw [List.length_set]
      have hh : h.length = (h.set a (0, l0.set i.toNatClampNeg x, [])).length := List.length_set.symm
      exact va_iast hx hb hK0 hP hD hS a 0 (xw_at he) rfl hin hd (fun H1 locs1 hP1 hD1 hS1 => by rw [key] at hP1 hD1; exact ih _ _ _ _ _ _ ho hw4 hc hs ad H1 locs1 ls (by rw [← hh]; exact hn) had hal hL hl hP1 hD1 hS1)
    case castore =>
      dsimp only [xop] at hw
      obtain rfl : len = 1 := of_decide_eq_true hi
      obtain ⟨x, st0, rfl, hw1⟩ := pI_e hw
      obtain ⟨i, st1, rfl, hw2⟩ := pI_e hw1
      obtain ⟨a, st2, rfl, hw3⟩ := pR_e hw2
      obtain ⟨l0, vs, he, hin, hw4⟩ := xhi_e hw3
      intro hc hs ad H locs ls hn had hal hL hl hP hD hS
      have hlt : i.toNatClampNeg < l0.length := Nat.not_le.mp fun q => hin (Or.inr q)
      have key : (xw cy ad h).set a (ad a, .inl (cy 1, l0.length, .inl (upd (fun j => l0.getD j 0) i.toNatClampNeg (vp_nar .char x)))) = xw cy ad (h.set a (1, l0.set i.toNatClampNeg (vp_nar .char x), [])) := by
        rw [xset_eq hlt, ← xw_set (q := (1, l0.set i.toNatClampNeg (vp_nar .char x), []))]
        show _ = (xw cy ad h).set a (ad a, .inl (cy 1, (l0.set i.toNatClampNeg (vp_nar .char x)).length, .inl _))
        rw [List.length_set]
      have hh : h.length = (h.set a (1, l0.set i.toNatClampNeg (vp_nar .char x), [])).length := List.length_set.symm
      exact va_cast hx hb hK0 hP hD hS a 1 (xw_at he) rfl hin hd (fun H1 locs1 hP1 hD1 hS1 => by rw [key] at hP1 hD1; exact ih _ _ _ _ _ _ ho hw4 hc hs ad H1 locs1 ls (by rw [← hh]; exact hn) had hal hL hl hP1 hD1 hS1)
    case bastore =>
      dsimp only [xop] at hw
      obtain rfl : len = 1 := of_decide_eq_true hi
      obtain ⟨x, st0, rfl, hw1⟩ := pI_e hw
      obtain ⟨i, st1, rfl, hw2⟩ := pI_e hw1
      obtain ⟨a, st2, rfl, hw3⟩ := pR_e hw2
      obtain ⟨l0, vs, he, hin, hw4⟩ := xhi_e hw3
      intro hc hs ad H locs ls hn had hal hL hl hP hD hS
      have hlt : i.toNatClampNeg < l0.length := Nat.not_le.mp fun q => hin (Or.inr q)
      have key : (xw cy ad h).set a (ad a, .inl (cy 2, l0.length, .inl (upd (fun j => l0.getD j 0) i.toNatClampNeg (vp_nar .boolean x)))) = xw cy ad (h.set a (2, l0.set i.toNatClampNeg (vp_nar .boolean x), [])) := by
        rw [xset_eq hlt, ← xw_set (q := (2, l0.set i.toNatClampNeg (vp_nar .boolean x), []))]
        show _ = (xw cy ad h).set a (ad a, .inl (cy 2, (l0.set i.toNatClampNeg (vp_nar .boolean x)).length, .inl _))
        rw [List.length_set]
      have hh : h.length = (h.set a (2, l0.set i.toNatClampNeg (vp_nar .boolean x), [])).length := List.length_set.symm
      exact va_zast hx hb hK0 hP hD hS a 2 (xw_at he) rfl hin hd (fun H1 locs1 hP1 hD1 hS1 => by rw [key] at hP1 hD1; exact ih _ _ _ _ _ _ ho hw4 hc hs ad H1 locs1 ls (by rw [← hh]; exact hn) had hal hL hl hP1 hD1 hS1)
    case aastore =>
      dsimp only [xop] at hw
      obtain rfl : len = 1 := of_decide_eq_true hi
      obtain ⟨x, st0, rfl, hw1⟩ := pR_e hw
      obtain ⟨i, st1, rfl, hw2⟩ := pI_e hw1
      obtain ⟨a, st2, rfl, hw3⟩ := pR_e hw2
      obtain ⟨l0, vs, he, hw4⟩ := xhv_e hw3
      obtain ⟨l1, vs1, he1, hin, hw5⟩ := xhv_e hw4
      intro hc hs ad H locs ls hn had hal hL hl hP hD hS
      have hlt : i.toNatClampNeg < vs.length := Nat.not_le.mp fun q => hin (Or.inr q)
      have kf : va_up (fun j => xopt ad (vs.getD j .null)) i.toNatClampNeg (some (ad x)) = fun j => xopt ad ((vs.set i.toNatClampNeg (.ref x)).getD j .null) := by
        funext j
        simp only [va_up, List.getD_eq_getElem?_getD, List.getElem?_set]
        by_cases e : j = i.toNatClampNeg
        · rw [if_pos e, if_pos e.symm, if_pos (by omega)]; rfl
        · rw [if_neg e, if_neg (Ne.symm e)]
      have key : (xw cy ad h).set a (ad a, .inl (cy 4, vs.length, .inr (.inr (.inr (.inr (va_up (fun j => xopt ad (vs.getD j .null)) i.toNatClampNeg (some (ad x)))))))) = xw cy ad (h.set a (4, [], vs.set i.toNatClampNeg (.ref x))) := by
        rw [kf, ← xw_set (q := (4, [], vs.set i.toNatClampNeg (.ref x)))]
        show _ = (xw cy ad h).set a (ad a, .inl (cy 4, (vs.set i.toNatClampNeg (.ref x)).length, .inr (.inr (.inr (.inr _)))))
        rw [List.length_set]
      have hh : h.length = (h.set a (4, [], vs.set i.toNatClampNeg (.ref x))).length := List.length_set.symm
      exact va_astq hx hb hK0 hP hD hS a 4 x 0 (r := (RX2, TX2, 7)) (xw_at he) rfl (xw_at he1) rfl hin hd (fun H1 locs1 hP1 hD1 hS1 => by rw [key] at hP1 hD1; exact ih _ _ _ _ _ _ ho hw5 hc hs ad H1 locs1 ls (by rw [← hh]; exact hn) had hal hL hl hP1 hD1 hS1)
    case arraylength =>
      dsimp only [xop] at hw
      obtain rfl : len = 1 := of_decide_eq_true hi
      obtain ⟨a, st1, rfl, hw1⟩ := pR_e hw
      intro hc hs ad H locs ls hn had hal hL hl hP hD hS
      unfold xal at hw1
      cases eb : a == 1001 with
      | true =>
        rw [eb] at hw1
        have eb := beq_iff_eq.mp eb
        subst eb
        have e9 := had 1001 (Or.inr (by decide))
        cases hsc9 : sc with
        | none => rw [hsc9] at hw1; exact hw1.elim
        | some lst =>
          rw [hsc9] at hw1
          obtain ⟨x1, x2, x3⟩ := hsc lst hsc9
          rw [← e9] at x1 x2 x3
          exact va_slen hx hb x1 x2 x3 hS hd (ih _ _ _ _ _ _ ho hw1 hc hs ad H locs ls hn had hal hL hl hP hD hS)
      | false =>
        rw [eb] at hw1
        have hw2 : (match h[a]? with | some (0, l, _) => _ | some (1, l, _) => _ | some (2, l, _) => _ | some (4, _, l) => _ | _ => False) := hw1
        split at hw2
        · rename_i he; exact va_alen hx hb hK0 hP a 0 (xw_at he) rfl rfl hd (ih _ _ _ _ _ _ ho hw2 hc hs ad H locs ls hn had hal hL hl hP hD hS)
        · rename_i he; exact va_alen hx hb hK0 hP a 1 (xw_at he) rfl rfl hd (ih _ _ _ _ _ _ ho hw2 hc hs ad H locs ls hn had hal hL hl hP hD hS)
        · rename_i he; exact va_alen hx hb hK0 hP a 2 (xw_at he) rfl rfl hd (ih _ _ _ _ _ _ ho hw2 hc hs ad H locs ls hn had hal hL hl hP hD hS)
        · rename_i he; exact va_alen hx hb hK0 hP a 4 (xw_at he) rfl rfl hd (ih _ _ _ _ _ _ ho hw2 hc hs ad H locs ls hn had hal hL hl hP hD hS)
        · exact hw2.elim
    case newarray t =>
      dsimp only [xop] at hw
      obtain ⟨hi1, hi2⟩ := x_and2 hi
      obtain rfl : len = 2 := of_decide_eq_true hi1
      obtain ⟨n, st1, rfl, hn0, hn1, hal1, hc1, hs1, hlt1, hwL, hwS, hwH, hw1⟩ := pI_e hw
      intro hc hs ad H locs ls hn had hal hL hl hP hD hS
      have hst : st1.map (cv ad) = st1.map (cv ad) := rfl
      cases t <;> try exact hw1.elim
      case boolean =>
        have kf : (fun j => (List.replicate n.toNatClampNeg (0 : Int32)).getD j 0) = fun _ => 0 := by
          funext j
          rw [List.getD_eq_getElem?_getD, List.getElem?_replicate]
          split <;> rfl
        have ez : xe cy ad (2, List.replicate n.toNatClampNeg 0, []) = .inl (cy 2, n.toNatClampNeg, .inl (fun _ => 0)) := by
          show (.inl (cy 2, (List.replicate n.toNatClampNeg (0 : Int32)).length, .inl (fun j => (List.replicate n.toNatClampNeg (0 : Int32)).getD j 0)) : va_E) = _
          rw [kf, List.length_replicate]
        have ez2 : xe cy (va_up ad h.length 0) (2, List.replicate n.toNatClampNeg 0, []) = xe cy ad (2, List.replicate n.toNatClampNeg 0, []) := rfl
        refine va_newa (atype := .boolean) (ty := .boolean) (a0 := (n.toNatClampNeg, .inl (fun _ => 0))) hx hb (hw_ _ hi2) rfl hK0 hP hD hS hA (fun cA => rfl) hn0 rfl (Nat.le_trans (Nat.mul_le_mul hn1 (by decide : componentBytes .boolean ≤ 8)) (by decide)) (Nat.le_trans hc1 hmc) (Nat.le_trans hs1 hms) hd ?_
        intro q9 cA H1 hK1 hP1 hD1 hS1
        have ecA : cA = cy 2 := Option.some.inj ((hK1.2 5 _ rfl).2.symm.trans (hK0.2 2 _ rfl).2)
        rw [ecA, ← ez] at hP1 hD1
        have go := ih _ _ _ _ _ _ ho hw1 hc1 hs1 (va_up ad h.length q9) H1 locs ls (by rw [List.length_append]; exact Nat.le_trans hn (Nat.le_add_right _ _)) (fun i hi => (x_up hlt1 i (hi.elim (fun q => Or.inl (Nat.lt_of_lt_of_le q hn)) Or.inr)).trans (had i hi)) (fun z => by rw [hal1] at z; cases z) hL (xwL_eq (x_up hlt1) hwL hl) (by rw [xw_new hlt1 hwH rfl]; exact hP1) (by rw [xw_new hlt1 hwH rfl]; exact hD1) hS1
        rw [List.map_cons, xwS_eq (x_up hlt1) hwS] at go
        rw [show cv (va_up ad h.length q9) (.ref h.length) = .ref q9 from congrArg Value.ref (va_up_self _ _ _)] at go
        exact go
      case char =>
        have kf : (fun j => (List.replicate n.toNatClampNeg (0 : Int32)).getD j 0) = fun _ => 0 := by
          funext j
          rw [List.getD_eq_getElem?_getD, List.getElem?_replicate]
          split <;> rfl
        have ez : xe cy ad (1, List.replicate n.toNatClampNeg 0, []) = .inl (cy 1, n.toNatClampNeg, .inl (fun _ => 0)) := by
          show (.inl (cy 1, (List.replicate n.toNatClampNeg (0 : Int32)).length, .inl (fun j => (List.replicate n.toNatClampNeg (0 : Int32)).getD j 0)) : va_E) = _
          rw [kf, List.length_replicate]
        have ez2 : xe cy (va_up ad h.length 0) (1, List.replicate n.toNatClampNeg 0, []) = xe cy ad (1, List.replicate n.toNatClampNeg 0, []) := rfl
        refine va_newa (atype := .char) (ty := .char) (a0 := (n.toNatClampNeg, .inl (fun _ => 0))) hx hb (hw_ _ hi2) rfl hK0 hP hD hS hA (fun cA => rfl) hn0 rfl (Nat.le_trans (Nat.mul_le_mul hn1 (by decide : componentBytes .char ≤ 8)) (by decide)) (Nat.le_trans hc1 hmc) (Nat.le_trans hs1 hms) hd ?_
        intro q9 cA H1 hK1 hP1 hD1 hS1
        have ecA : cA = cy 1 := Option.some.inj ((hK1.2 5 _ rfl).2.symm.trans (hK0.2 1 _ rfl).2)
        rw [ecA, ← ez] at hP1 hD1
        have go := ih _ _ _ _ _ _ ho hw1 hc1 hs1 (va_up ad h.length q9) H1 locs ls (by rw [List.length_append]; exact Nat.le_trans hn (Nat.le_add_right _ _)) (fun i hi => (x_up hlt1 i (hi.elim (fun q => Or.inl (Nat.lt_of_lt_of_le q hn)) Or.inr)).trans (had i hi)) (fun z => by rw [hal1] at z; cases z) hL (xwL_eq (x_up hlt1) hwL hl) (by rw [xw_new hlt1 hwH rfl]; exact hP1) (by rw [xw_new hlt1 hwH rfl]; exact hD1) hS1
        rw [List.map_cons, xwS_eq (x_up hlt1) hwS] at go
        rw [show cv (va_up ad h.length q9) (.ref h.length) = .ref q9 from congrArg Value.ref (va_up_self _ _ _)] at go
        exact go
      case int =>
        have kf : (fun j => (List.replicate n.toNatClampNeg (0 : Int32)).getD j 0) = fun _ => 0 := by
          funext j
          rw [List.getD_eq_getElem?_getD, List.getElem?_replicate]
          split <;> rfl
        have ez : xe cy ad (0, List.replicate n.toNatClampNeg 0, []) = .inl (cy 0, n.toNatClampNeg, .inl (fun _ => 0)) := by
          show (.inl (cy 0, (List.replicate n.toNatClampNeg (0 : Int32)).length, .inl (fun j => (List.replicate n.toNatClampNeg (0 : Int32)).getD j 0)) : va_E) = _
          rw [kf, List.length_replicate]
        have ez2 : xe cy (va_up ad h.length 0) (0, List.replicate n.toNatClampNeg 0, []) = xe cy ad (0, List.replicate n.toNatClampNeg 0, []) := rfl
        refine va_newa (atype := .int) (ty := .int) (a0 := (n.toNatClampNeg, .inl (fun _ => 0))) hx hb (hw_ _ hi2) rfl hK0 hP hD hS hA (fun cA => rfl) hn0 rfl (Nat.le_trans (Nat.mul_le_mul hn1 (by decide : componentBytes .int ≤ 8)) (by decide)) (Nat.le_trans hc1 hmc) (Nat.le_trans hs1 hms) hd ?_
        intro q9 cA H1 hK1 hP1 hD1 hS1
        have ecA : cA = cy 0 := Option.some.inj ((hK1.2 5 _ rfl).2.symm.trans (hK0.2 0 _ rfl).2)
        rw [ecA, ← ez] at hP1 hD1
        have go := ih _ _ _ _ _ _ ho hw1 hc1 hs1 (va_up ad h.length q9) H1 locs ls (by rw [List.length_append]; exact Nat.le_trans hn (Nat.le_add_right _ _)) (fun i hi => (x_up hlt1 i (hi.elim (fun q => Or.inl (Nat.lt_of_lt_of_le q hn)) Or.inr)).trans (had i hi)) (fun z => by rw [hal1] at z; cases z) hL (xwL_eq (x_up hlt1) hwL hl) (by rw [xw_new hlt1 hwH rfl]; exact hP1) (by rw [xw_new hlt1 hwH rfl]; exact hD1) hS1
        rw [List.map_cons, xwS_eq (x_up hlt1) hwS] at go
        rw [show cv (va_up ad h.length q9) (.ref h.length) = .ref q9 from congrArg Value.ref (va_up_self _ _ _)] at go
        exact go
    case anewarray i =>
      dsimp only [xop] at hw
      obtain ⟨hi1, hi2⟩ := x_and2 hi
      obtain rfl : len = 3 := of_decide_eq_true hi1
      obtain ⟨n, st1, rfl, hn0, hn1, hal1, hc1, hs1, hlt1, hwL, hwS, hwH, hw1⟩ := pI_e hw
      intro hc hs ad H locs ls hn had hal hL hl hP hD hS
      have ez : ∀ ad9 : Nat → Nat, xe cy ad9 (4, [], List.replicate n.toNatClampNeg .null) = .inl (cy 4, n.toNatClampNeg, .inr (.inr (.inr (.inr (fun _ => none))))) := by
        intro ad9
        have kf : (fun j => xopt ad9 ((List.replicate n.toNatClampNeg Value.null).getD j .null)) = fun _ => none := by
          funext j
          rw [List.getD_eq_getElem?_getD, List.getElem?_replicate]
          split <;> rfl
        show (.inl (cy 4, (List.replicate n.toNatClampNeg Value.null).length, .inr (.inr (.inr (.inr (fun j => xopt ad9 ((List.replicate n.toNatClampNeg Value.null).getD j .null)))))) : va_E) = _
        rw [kf, List.length_replicate]
      refine va_newq (C := RX2) hx hb hown (hw_ _ hi2) hG.2.2.2.2.2.2.1 hK0 hP hD hS hA hn0 rfl (by omega) (Nat.le_trans hc1 hmc) (Nat.le_trans hs1 hms) hd ?_
      intro q9 cA H1 hK1 hP1 hD1 hS1
      have ecA : cA = cy 4 := x_ra (hK1.2 5 _ rfl).2 (hK0.2 4 _ rfl).2
      rw [ecA, ← ez ad] at hP1 hD1
      have go := ih _ _ _ _ _ _ ho hw1 hc1 hs1 (va_up ad h.length q9) H1 locs ls (by rw [List.length_append]; exact Nat.le_trans hn (Nat.le_add_right _ _)) (fun i hi => (x_up hlt1 i (hi.elim (fun q => Or.inl (Nat.lt_of_lt_of_le q hn)) Or.inr)).trans (had i hi)) (fun z => by rw [hal1] at z; cases z) hL (xwL_eq (x_up hlt1) hwL hl) (by rw [xw_new hlt1 hwH ((ez _).trans (ez _).symm)]; exact hP1) (by rw [xw_new hlt1 hwH ((ez _).trans (ez _).symm)]; exact hD1) hS1
      rw [List.map_cons, xwS_eq (x_up hlt1) hwS] at go
      rw [show cv (va_up ad h.length q9) (.ref h.length) = .ref q9 from congrArg Value.ref (va_up_self _ _ _)] at go
      exact go
    case new i =>
      dsimp only [xop] at hw
      obtain ⟨hi1, hi2⟩ := x_and2 hi
      obtain rfl : len = 3 := of_decide_eq_true hi1
      cases hr3 : xnew r1 with
      | true =>
        rw [hr3] at hw hi2
        have ho : (bif xnew r1 then okEs T KT y cc bl nx (pc + 3) es else true) = true := ho
        rw [hr3] at ho
        obtain ⟨hal1, hc1, hs1, hlt1, hwL, hwS, hwH, hw5⟩ := hw
        cases hq : xCl[r1]? with
        | none => rw [hq] at hi2; cases hi2
        | some z =>
          rw [hq] at hi2
          obtain ⟨k1, k2, k3⟩ := x_and3 hi2
          obtain ⟨f1, f2⟩ := xcl_def r1 z hq
          intro hc hs ad H locs ls hn had hal hL hl hP hD hS
          have ez : ∀ ad9 : Nat → Nat, xe cy ad9 (r1 + 5, [], xdef r1) = .inr (r1, xdef r1) := fun ad9 => congrArg (fun w => (.inr (r1, w) : va_E)) (xdef_map ad9 r1)
          rw [f1] at hs1
          refine va_new (C := z.1) (T := z.2.1) (N := z.2.2) (ci := r1) (fs := xdef r1) hx hb hts (xcl_in r1 z hq) (xTy r1) (xcl_ty r1 z hq) hown (hw_ _ k1) (hw_ _ k2) (hw_ _ k3) hK0 hP hD hS hA hq f2 (Nat.le_trans hc1 hmc) (Nat.le_trans hs1 hms) hd ?_
          intro q9 H1 hP1 hD1 hS1
          rw [← ez ad] at hP1 hD1
          rw [f1] at hw5
          have go := ih _ _ _ _ _ _ ho hw5 hc1 hs1 (va_up ad h.length q9) H1 locs ls (by rw [List.length_append]; exact Nat.le_trans hn (Nat.le_add_right _ _)) (fun i hi => (x_up hlt1 i (hi.elim (fun q => Or.inl (Nat.lt_of_lt_of_le q hn)) Or.inr)).trans (had i hi)) (fun z => by rw [hal1] at z; cases z) hL (xwL_eq (x_up hlt1) hwL hl) (by rw [xw_new hlt1 hwH ((ez _).trans (ez _).symm)]; exact hP1) (by rw [xw_new hlt1 hwH ((ez _).trans (ez _).symm)]; exact hD1) hS1
          rw [List.map_cons, xwS_eq (x_up hlt1) hwS] at go
          rw [show cv (va_up ad h.length q9) (.ref h.length) = .ref q9 from congrArg Value.ref (va_up_self _ _ _)] at go
          exact go
      | false =>
        rw [hr3] at hw hi2
        obtain ⟨w1, w2, w3, w4⟩ := xsm_e2 hw
        exact hThr i pc r1 es h cs ss L st hd hi2 w1 w2 w3 w4
    case invokestatic i =>
      dsimp only [xop] at hw
      obtain ⟨hi1, hi2⟩ := x_and2 hi
      obtain rfl : len = 3 := of_decide_eq_true hi1
      cases e1 : r1 == 900 with
      | true =>
        rw [e1] at hw hi2
        obtain ⟨n, st1, rfl, w1⟩ := pI_e hw
        obtain ⟨dp, st2, rfl, w2⟩ := pI_e w1
        obtain ⟨b, st3, rfl, w3⟩ := pR_e w2
        obtain ⟨sp, st4, rfl, w4⟩ := pI_e w3
        obtain ⟨a, st5, rfl, w5⟩ := pR_e w4
        obtain ⟨hsm, w5⟩ := xsm_e2 w5
        obtain ⟨f, v1, he1, w6⟩ := xhi_e w5
        obtain ⟨g, v2, he2, g1, g2, g3, g4, g5, w7⟩ := xhi_e w6
        obtain ⟨hi3, k4⟩ := x_and2 hi2
        obtain ⟨k1, k2, k3⟩ := x_and3 hi3
        intro hc hs ad H locs ls hn had hal hL hl hP hD hS
        have key : (xw cy ad h).set b (ad b, .inl (cy 0, g.length, .inl (va_cpy (fun j => f.getD j 0) (fun j => g.getD j 0) sp.toNatClampNeg dp.toNatClampNeg n.toNatClampNeg))) = xw cy ad (h.set b (0, xcpy f g sp.toNatClampNeg dp.toNatClampNeg n.toNatClampNeg, [])) := by
          rw [xcpy_eq g4 g5, ← xw_set (q := (0, xcpy f g sp.toNatClampNeg dp.toNatClampNeg n.toNatClampNeg, []))]
          show _ = (xw cy ad h).set b (ad b, .inl (cy 0, (xcpy f g sp.toNatClampNeg dp.toNatClampNeg n.toNatClampNeg).length, .inl _))
          rw [xcpy_len g4 g5]
        have hh : h.length = (h.set b (0, xcpy f g sp.toNatClampNeg dp.toNatClampNeg n.toNatClampNeg, [])).length := List.length_set.symm
        have hnw : nativeFrameWords "java/lang/System" "arraycopy" 5 ≤ 100 := by decide
        exact va_copyi hx hb (hml.trans hl.1.symm) hown (hw_ _ k1) (hw_ _ k2) (hw_ _ k3) (hw_ _ k4) hK0 hP hD hS a b 0 0 (xw_at he1) (xw_at he2) rfl rfl rfl g1 g2 g3 g4 g5 (fun _ _ => rfl) (Nat.le_trans (by omega) hR.1) (by have z1 := (xsm_e hsm ad).2; have z2 := hR.2; omega) hd (fun H1 locs1 hP1 hD1 hS1 => by rw [key] at hP1 hD1; exact ih _ _ _ _ _ _ ho w7 hc hs ad H1 locs1 ls (by rw [← hh]; exact hn) had hal hL hl hP1 hD1 hS1)
      | false =>
        rw [e1] at hw hi2
        cases e2 : r1 == 904 with
        | true =>
          rw [e2] at hw hi2
          obtain ⟨x, st1, rfl, w1⟩ := pD_e hw
          obtain ⟨hsm, w1⟩ := xsm_e2 w1
          obtain ⟨hi3, k4⟩ := x_and2 hi2
          obtain ⟨k1, k2, k3⟩ := x_and3 hi3
          intro hc hs ad H locs ls hn had hal hL hl hP hD hS
          exact vn_d2l hx hb (hml.trans hl.1.symm) hown (hw_ _ k1) (hw_ _ k2) (hw_ _ k3) (hw_ _ k4) (Nat.le_trans (by omega) hR.1) (by have z1 := (xsm_e hsm ad).2; have z2 := hR.2; omega) hd (ih _ _ _ _ _ _ ho w1 hc hs ad H locs ls hn had hal hL hl hP hD hS)
        | false =>
          rw [e2] at hw hi2
          cases e3 : r1 == 905 with
          | true =>
            rw [e3] at hw hi2
            obtain ⟨x, st1, rfl, w1⟩ := pF_e hw
            obtain ⟨hsm, w1⟩ := xsm_e2 w1
            obtain ⟨hi3, k4⟩ := x_and2 hi2
            obtain ⟨k1, k2, k3⟩ := x_and3 hi3
            intro hc hs ad H locs ls hn had hal hL hl hP hD hS
            exact vn_f2i hx hb (hml.trans hl.1.symm) hown (hw_ _ k1) (hw_ _ k2) (hw_ _ k3) (hw_ _ k4) (Nat.le_trans (by omega) hR.1) (by have z1 := (xsm_e hsm ad).2; have z2 := hR.2; omega) hd (ih _ _ _ _ _ _ ho w1 hc hs ad H locs ls hn had hal hL hl hP hD hS)
          | false =>
            rw [e3] at hw hi2
            obtain ⟨as, st1, rfl, hn9, w1⟩ := xpop_e hw
            rw [List.append_nil] at w1
            obtain ⟨q, hq, hlk, hk, htb⟩ := okC_e hi2
            have hok := hT r1 q hq
            obtain ⟨k2, k1, -, -⟩ := (okM_e hok).2.2.2.2.2.1 0 r2 hk
            have k1 := k1 rfl
            intro hc hs ad H locs ls hn had hal hL hl hP hD hS
            obtain ⟨w2, w3, w4, w5, hE⟩ := xcall_e hc hs w1 htb
            obtain ⟨q', hq', hM0⟩ := hSd r1 _ h _ _ hE
            obtain rfl : q = q' := Option.some.inj (hq.symm.trans hq')
            have hM := x_met (hM0 D cy ad H.size) (by rintro E st t ⟨⟨k, h, ad, -, hx, -⟩, -⟩; exact hx)
            have e9 := had 1000 (Or.inr (Nat.le_refl _))
            have C9 : xCtx p l s m args meth c y cc nL ret D cy A (ad 1000) := by rw [e9]; exact C
            have hst : (as.reverse ++ st1).map (cv ad) = (as.map (cv ad)).reverse ++ st1.map (cv ad) := by rw [List.map_append, List.map_reverse]
            rw [hst]
            refine x_call (a := (as.map (cv ad)).toArray) (A1 := va_A (xw cy ad h) H.size) ?_ hS (x_free hD hS hA) (x_free hD hS hA) (fun v h' ad' H1 locs1 hQ hn1 had1 hal1 hP1 hD1 hS1 => x_fin (ih _ _ _ _ _ _ ho hQ) w3 w4 hn had hal hL hl w5 hn1 had1 hal1 hP1 hD1 hS1)
            rcases hlk with hlk | hlk
            · exact va_runS ⟨hx, hb, hml, hown, hts⟩ hM ⟨x_cb hts hok hlk k2 hR, hts _ k1⟩ ⟨x_blind, x_pre C9 hP hD hS⟩ rfl (by rw [List.length_map]; exact hn9) hl.1 rfl (lv_room (xsm_e w2 ad).2) hd ⟨Nat.le_trans w3 hmc, Nat.le_trans w4 hms⟩
            · exact va_runSN ⟨hx, hb, hml, hown, hts⟩ hM ⟨x_cn hts hG hok hlk k2 hR, hts _ k1, trivial⟩ ⟨x_blind, x_pre C9 hP hD hS⟩ rfl (by rw [List.length_map]; exact hn9) hl.1 rfl (lv_room (xsm_e w2 ad).2) hd ⟨Nat.le_trans w3 hmc, Nat.le_trans w4 hms⟩
    case invokespecial i =>
      dsimp only [xop] at hw
      obtain ⟨hi1, hi2⟩ := x_and2 hi
      obtain rfl : len = 3 := of_decide_eq_true hi1
      cases e1 : r1 == 901 with
      | true =>
        rw [e1] at hw hi2
        obtain ⟨a, st1, rfl, w1⟩ := pR_e hw
        obtain ⟨hsm, w1⟩ := xsm_e2 w1
        obtain ⟨k1, k2, k3⟩ := x_and3 hi2
        intro hc hs ad H locs ls hn had hal hL hl hP hD hS
        exact W.objInit hx hb hown (hw_ _ k1) (hw_ _ k2) (hw_ _ k3) rfl (hl.1.trans hml.symm) rfl hd (Nat.le_trans (by omega) hR.1) (by have z1 := lv_room (m := m) (pc := pc) (ls := ls) (rest := (Value.ref (ad a)) :: st1.map (cv ad)) (xsm_e hsm ad).2; have z2 := hR.2; exact Nat.le_trans (Nat.add_le_add_right z1 12) (by omega)) (ih _ _ _ _ _ _ ho w1 hc hs ad H locs ls hn had hal hL hl hP hD hS)
      | false =>
        rw [e1] at hw hi2
        obtain ⟨hr9, hi3⟩ := x_and2 hi2
        have hr9 := of_decide_eq_true hr9
        obtain ⟨as, st1, rfl, hn9, w1⟩ := xpop_e hw
        rw [List.append_nil] at w1
        obtain ⟨b, As, rfl⟩ : ∃ b As, as = Value.ref b :: As := by revert w1; cases as with | nil => exact fun h => h.elim | cons a0 as => cases a0 <;> first | exact fun h => h.elim | exact fun _ => ⟨_, _, rfl⟩
        obtain ⟨q, hq, hlk, hk, htb⟩ := okC_e hi3
        have hok := hT r1 q hq
        obtain ⟨k4, -, -, k1⟩ := (okM_e hok).2.2.2.2.2.1 2 (r2 - 1) hk
        obtain ⟨k1, k2, k3⟩ := k1 rfl
        intro hc hs ad H locs ls hn had hal hL hl hP hD hS
        obtain ⟨w2, w3, w4, w5, hE⟩ := xcall_e hc hs w1 htb
        obtain ⟨q', hq', hM0⟩ := hSd r1 _ h _ _ hE
        obtain rfl : q = q' := Option.some.inj (hq.symm.trans hq')
        have hM := x_met (hM0 D cy ad H.size) (by rintro E st t ⟨⟨k, h, ad, -, hx, -⟩, -⟩; exact hx)
        have e9 := had 1000 (Or.inr (Nat.le_refl _))
        have C9 : xCtx p l s m args meth c y cc nL ret D cy A (ad 1000) := by rw [e9]; exact C
        have hst : ((Value.ref b :: As).reverse ++ st1).map (cv ad) = (As.map (cv ad)).reverse ++ Value.ref (ad b) :: st1.map (cv ad) := by rw [List.map_append, List.map_reverse, List.map_cons, List.reverse_cons, List.append_assoc]; rfl
        rw [hst]
        refine x_call (a := (Value.ref (ad b) :: As.map (cv ad)).toArray) (A1 := va_A (xw cy ad h) H.size) ?_ hS (x_free hD hS hA) (x_free hD hS hA) (fun v h' ad' H1 locs1 hQ hn1 had1 hal1 hP1 hD1 hS1 => x_fin (ih _ _ _ _ _ _ ho hQ) w3 w4 hn had hal hL hl w5 hn1 had1 hal1 hP1 hD1 hS1)
        have hn8 : (As.map (cv ad)).length = r2 - 1 := by rw [List.length_map]; simp only [List.length_cons] at hn9; omega
        rcases hlk with hlk | hlk
        · have cb := x_cb hts hok hlk k4 hR
          rw [k2] at cb hM
          exact va_runI ⟨hx, hb, hml, hown, hts⟩ hM ⟨cb, k1, hts _ k3⟩ ⟨x_blind, x_pre C9 hP hD hS⟩ rfl hn8 hl.1 rfl (lv_room (xsm_e w2 ad).2) hd ⟨Nat.le_trans w3 hmc, Nat.le_trans w4 hms⟩
        · have cb := x_cn hts hG hok hlk k4 hR
          rw [k2] at cb hM
          exact va_runIN ⟨hx, hb, hml, hown, hts⟩ hM ⟨cb, k1, hts _ k3⟩ ⟨x_blind, x_pre C9 hP hD hS⟩ rfl hn8 hl.1 rfl (lv_room (xsm_e w2 ad).2) hd ⟨Nat.le_trans w3 hmc, Nat.le_trans w4 hms⟩
    case invokevirtual i =>
      dsimp only [xop] at hw
      obtain ⟨hi, hi6⟩ := x_and2 hi
      obtain ⟨hi1, hr9, hi3⟩ := x_and3 hi
      obtain rfl : len = 3 := of_decide_eq_true hi1
      have hr9 := of_decide_eq_true hr9
      obtain ⟨as, st1, rfl, hn9, w1⟩ := xpop_e hw
      rw [List.append_nil] at w1
      obtain ⟨b, As, rfl⟩ : ∃ b As, as = Value.ref b :: As := by revert w1; cases as with | nil => exact fun h => h.elim | cons a0 as => cases a0 <;> first | exact fun h => h.elim | exact fun _ => ⟨_, _, rfl⟩
      obtain ⟨l0, vs, he, w1⟩ := xhv_e w1
      obtain ⟨q, hq, hlk, hk, htb⟩ := okC_e hi3
      have hok := hT r1 q hq
      obtain ⟨k3, -, k1, -⟩ := (okM_e hok).2.2.2.2.2.1 1 (r2 - 1) hk
      obtain ⟨k1, k2⟩ := k1 rfl
      rw [hq] at hi6
      cases hz : xCl[tb.headD 0]? with
      | none => rw [hz] at hi6; cases hi6
      | some z =>
        rw [hz] at hi6
        have k4 := of_decide_eq_true hi6
        intro hc hs ad H locs ls hn had hal hL hl hP hD hS
        obtain ⟨w2, w3, w4, w5, hE⟩ := xcall_e hc hs w1 htb
        obtain ⟨q', hq', hM0⟩ := hSd r1 _ h _ _ hE
        obtain rfl : q = q' := Option.some.inj (hq.symm.trans hq')
        have hM := x_met (hM0 D cy ad H.size) (by rintro E st t ⟨⟨k, h, ad, -, hx, -⟩, -⟩; exact hx)
        have e9 := had 1000 (Or.inr (Nat.le_refl _))
        have C9 : xCtx p l s m args meth c y cc nL ret D cy A (ad 1000) := by rw [e9]; exact C
        have hst : ((Value.ref b :: As).reverse ++ st1).map (cv ad) = (As.map (cv ad)).reverse ++ Value.ref (ad b) :: st1.map (cv ad) := by rw [List.map_append, List.map_reverse, List.map_cons, List.reverse_cons, List.append_assoc]; rfl
        rw [hst]
        refine x_call (a := (Value.ref (ad b) :: As.map (cv ad)).toArray) (A1 := va_A (xw cy ad h) H.size) ?_ hS (x_free hD hS hA) (x_free hD hS hA) (fun v h' ad' H1 locs1 hQ hn1 had1 hal1 hP1 hD1 hS1 => x_fin (ih _ _ _ _ _ _ ho hQ) w3 w4 hn had hal hL hl w5 hn1 had1 hal1 hP1 hD1 hS1)
        have hn8 : (As.map (cv ad)).length = r2 - 1 := by rw [List.length_map]; simp only [List.length_cons] at hn9; omega
        have hrc := va_recv hK0 hP hz (xw_at he)
        rw [← k4] at hrc
        rcases hlk with hlk | hlk
        · exact va_runV ⟨hx, hb, hml, hown, hts⟩ hM ⟨x_cb hts hok hlk k3 hR, hts _ k1, hts _ k2⟩ ⟨x_blind, hrc, x_pre C9 hP hD hS⟩ rfl hn8 hl.1 rfl (lv_room (xsm_e w2 ad).2) hd ⟨Nat.le_trans w3 hmc, Nat.le_trans w4 hms⟩
        · exact va_runVN ⟨hx, hb, hml, hown, hts⟩ hM ⟨x_cn hts hG hok hlk k3 hR, hts _ k1, hts _ k2⟩ ⟨x_blind, hrc, x_pre C9 hP hD hS⟩ rfl hn8 hl.1 rfl (lv_room (xsm_e w2 ad).2) hd ⟨Nat.le_trans w3 hmc, Nat.le_trans w4 hms⟩
    case ireturn =>
      dsimp only [xop] at hw
      obtain rfl : len = 1 := of_decide_eq_true hi
      obtain ⟨x, st1, rfl, hw1⟩ := pI_e hw
      obtain ⟨rfl, hw2⟩ := p0_e hw1
      obtain ⟨h1, h2, h3, h4⟩ := xret_e hw2
      exact hEnd _ pc (some (.int x)) h cs ss L hd ⟨x, rfl, h1⟩ h2 h3 h4
    case lreturn =>
      dsimp only [xop] at hw
      obtain rfl : len = 1 := of_decide_eq_true hi
      obtain ⟨x, st1, rfl, hw1⟩ := pJ_e hw
      obtain ⟨rfl, hw2⟩ := p0_e hw1
      obtain ⟨h1, h2, h3, h4⟩ := xrtl_e hw2
      exact hEnd _ pc (some (.long x)) h cs ss L hd ⟨x, rfl, h1⟩ h2 h3 h4
    case freturn =>
      dsimp only [xop] at hw
      obtain rfl : len = 1 := of_decide_eq_true hi
      obtain ⟨x, st1, rfl, hw1⟩ := pF_e hw
      obtain ⟨rfl, hw2⟩ := p0_e hw1
      obtain ⟨h1, h2, h3, h4⟩ := xrtf_e hw2
      exact hEnd _ pc (some (.float x)) h cs ss L hd ⟨x, rfl, h1⟩ h2 h3 h4
    case dreturn =>
      dsimp only [xop] at hw
      obtain rfl : len = 1 := of_decide_eq_true hi
      obtain ⟨x, st1, rfl, hw1⟩ := pD_e hw
      obtain ⟨rfl, hw2⟩ := p0_e hw1
      obtain ⟨h1, h2, h3, h4⟩ := xrtd_e hw2
      exact hEnd _ pc (some (.double x)) h cs ss L hd ⟨x, rfl, h1⟩ h2 h3 h4
    case areturn =>
      dsimp only [xop] at hw
      obtain rfl : len = 1 := of_decide_eq_true hi
      obtain ⟨x, st1, rfl, hz, hw1⟩ := pA_e hw
      obtain ⟨rfl, hw2⟩ := p0_e hw1
      obtain ⟨h1, h2, h3, h4⟩ := xrta_e hw2
      exact hEnd _ pc (some x) h cs ss L hd ⟨x, rfl, hz, h1⟩ h2 h3 h4
    case return_ =>
      dsimp only [xop] at hw
      obtain rfl : len = 1 := of_decide_eq_true hi
      obtain ⟨rfl, hw1⟩ := p0_e hw
      obtain ⟨h1, h2, h3, h4⟩ := xrtv_e hw1
      exact hEnd _ pc none h cs ss L hd ⟨rfl, h1⟩ h2 h3 h4
    all_goals exact False.elim hw
end
section
/-! ===== what Ev says holds of the machine ===== -/
theorem xfl_lg (ad : Nat → Nat) : ∀ (as : List Value) , (lg_sl (as.map (cv ad))).length = (xfl as).length
  | [] => rfl
  | v :: as => by
    have ih := xfl_lg ad as
    unfold lg_sl xfl at ih ⊢
    simp only [List.map_cons, List.flatMap_cons, List.length_append, ih, cv_cat]
    split <;> rfl
theorem xfl_at (ad : Nat → Nat) : ∀ (as : List Value) (i j : Nat) (v : Value), (xfl as)[j]? = some (some v) → (i + j, cv ad v) ∈ lv_args i (as.map (cv ad))
  | [], i, j, v, h => by simp [xfl] at h
  | u :: as, i, j, v, h => by
    have h : ((if u.category = 2 then [some u, none] else [some u]) ++ xfl as)[j]? = some (some v) := h
    show (i + j, cv ad v) ∈ (i, cv ad u) :: lv_args (if (cv ad u).category = 2 then i + 2 else i + 1) (as.map (cv ad))
    rw [cv_cat]
    by_cases e : u.category = 2
    · rw [if_pos e] at h ⊢
      match j, h with
      | 0, h =>
        have h : u = v := by simpa using h
        rw [h]; exact List.mem_cons_self
      | 1, h => simp at h
      | j + 2, h =>
        have h : (xfl as)[j]? = some (some v) := by simpa using h
        have := xfl_at ad as (i + 2) j v h
        rw [show i + (j + 2) = i + 2 + j by omega]
        exact List.mem_cons_of_mem _ this
    · rw [if_neg e] at h ⊢
      match j, h with
      | 0, h =>
        have h : u = v := by simpa using h
        rw [h]; exact List.mem_cons_self
      | j + 1, h =>
        have h : (xfl as)[j]? = some (some v) := by simpa using h
        have := xfl_at ad as (i + 1) j v h
        rw [show i + (j + 1) = i + 1 + j by omega]
        exact List.mem_cons_of_mem _ this
theorem xent_len {n : Nat} {as : List Value} (h : (xfl as).length ≤ n) : (xent n as).length = n := by
  unfold xent xpad
  rw [List.length_append, List.length_replicate]
  omega
theorem xent_has {n : Nat} {as : List Value} {ad : Nat → Nat} {ls : Array Slot} (hl : lv_has ls n (lv_args 0 (as.map (cv ad)))) : lv_has ls n (xps ad (xent n as)) := by
  refine lv_less hl fun q hq => ?_
  obtain ⟨j, w⟩ := q
  obtain ⟨u, h1, rfl⟩ := xps_mem.mp hq
  unfold xent xpad at h1
  by_cases hj : j < (xfl as).length
  · rw [List.getElem?_append_left hj] at h1
    have := xfl_at ad as 0 j u h1
    rwa [Nat.zero_add] at this
  · rw [List.getElem?_append_right (by omega), List.getElem?_replicate] at h1
    split at h1 <;> cases h1
section RXU
variable {p : Program} {l : Launch} {e : Env} {R : Room} {s : State} {m : MethodId} {args : Array Value} {below : List Frame} {meth : Method} {c : Code}
theorem x_end {y : MethodName} {cc : ByteArray} {nL : Nat} {ret : Option FieldType} {D : va_G} {cy : Nat → ClassId} {A : Nat → Prop} {ad0 : Nat → Nat} {n0 : Nat} {al : Bool} {mc ms : Nat} {Q : Option Value → xH → Prop} {XC : String → State → State → Prop}
    (C : xCtx p l s m args meth c y cc nL ret D cy A (ad0 1000)) (ins : Instr) (pc : Nat) (v : Option Value) (h : xH) (cs ss : Nat) (L : xL) (hd : decode cc pc = .ok (ins, 1)) (hr : xrt ret ins v) (h2 : cs ≤ mc) (h3 : ss ≤ ms) (hQ : Q v h) :
    xW p l e R s m args below meth c (vx_MQ below (xQc D cy ad0 n0 al A Q) XC args s mc ms A) D cy A ad0 n0 al nL mc ms pc L v.toList h cs ss := by
  intro hc hs ad H locs ls hn had hal hL hl hP hD hS
  obtain ⟨hx, hb, hrt, hml, hown, hts, hlocks, hnm, hex, hK0, hA, hG, hfl⟩ := C
  refine W.widen h2 h3 ?_
  refine vx_ret ?_
  have post : ∀ t : State, t.heap = H → s.WarmedH t.vm → xQc D cy ad0 n0 al A Q args s (.returned (v.map (cv ad))) t := fun t ht hW => ⟨⟨v, h, ad, rfl, hQ, hn, had, hal, by rw [ht]; exact hP, va_K.moved hW.alike hK0, hD⟩, hS.F ht⟩
  cases ins
  case ireturn =>
    obtain ⟨x, rfl, hx9⟩ := hr
    rcases hx9 with rfl | ⟨rfl, hx9⟩
    · exact W.iret hx hb hrt post hS.2.2 hd hlocks
    · exact W.zret hx hb hrt (by rcases hx9 with rfl | rfl <;> decide) post hS.2.2 hd hlocks
  case lreturn =>
    obtain ⟨x, rfl, hx9⟩ := hr
    exact W.lret hx hb (hrt.trans hx9) post hS.2.2 hd hlocks
  case freturn =>
    obtain ⟨x, rfl, hx9⟩ := hr
    exact W.fret hx hb (hrt.trans hx9) post hS.2.2 hd hlocks
  case dreturn =>
    obtain ⟨x, rfl, hx9⟩ := hr
    exact W.dret hx hb (hrt.trans hx9) post hS.2.2 hd hlocks
  case areturn =>
    obtain ⟨x, rfl, hz, hx9⟩ := hr
    have hv : cv ad x = .null ∨ ∃ a, cv ad x = .ref a := by
      rcases hz with ⟨a, rfl⟩ | rfl
      · exact Or.inr ⟨_, rfl⟩
      · exact Or.inl rfl
    rcases hx9 with ⟨n, rfl⟩ | ⟨n, rfl⟩
    · exact W.aret hx hb hrt (Or.inl ⟨n, rfl⟩) hv post hS.2.2 hd hlocks
    · exact W.aret hx hb hrt (Or.inr ⟨n, rfl⟩) hv post hS.2.2 hd hlocks
  case return_ =>
    obtain ⟨rfl, hx9⟩ := hr
    exact W.vret hx hb (hrt.trans hx9) post hS.2.2 hd hlocks
  all_goals exact False.elim hr
theorem xExc_fit (k : Nat) : Bundle.fit (xExc k) = true := by
  unfold xExc
  split <;> decide +kernel
theorem xNames_fit : ∀ n ∈ xNames, Bundle.fit n = true := by decide +kernel
theorem x_thr {y : MethodName} {cc : ByteArray} {nL : Nat} {ret : Option FieldType} {D : va_G} {cy : Nat → ClassId} {A : Nat → Prop} {ad0 : Nat → Nat} {n0 : Nat} {al : Bool} {mc ms d : Nat} {Qc : Array Value → State → Outcome → State → Prop} {X : Nat → xH → Prop}
    (C : xCtx p l s m args meth c y cc nL ret D cy A (ad0 1000)) (hR : xR d R) (hmc : mc ≤ R.cells) (hms : ms ≤ R.slots) (ik pc r1 : Nat) (es : List xE) (h : xH) (cs ss : Nat) (L : xL) (st : List Value) (hd : decode cc pc = .ok (.new ik, 3)) (ht : okT cc y.cls r1 pc ik es = true) (hsm : st.length ≤ 4) (h2 : cs + 1 ≤ mc) (h3 : ss + 6 ≤ ms) (hX : X r1 h) :
    xW p l e R s m args below meth c (vx_MQ below Qc (xXc D cy ad0 n0 al A X) args s mc ms A) D cy A ad0 n0 al nL mc ms pc L st h cs ss := by
  intro hc hs ad H locs ls hn had hal hL hl hP hD hS
  obtain ⟨hx, hb, hrt, hml, hown, hts, hlocks, hnm, hex, hK0, hA, hG, hfl⟩ := C
  have post : ∀ t : State, s.vm.Alike t.vm → H.size ≤ t.heap.size → (∀ q : Nat, q < H.size → t.heap[q]? = H[q]?) → xXc D cy ad0 n0 al A X (xExc r1) s t := fun t ha hz hk =>
    ⟨⟨r1, h, ad, rfl, hX, hn, had, hal, hP.kept (fun k q hq => hk q.1 (hP k q hq).lt), va_K.moved ha hK0, hD⟩, Nat.le_trans hS.1 hz, fun q h1 h2 => (hk q (Nat.lt_of_lt_of_le h1 hS.1)).trans (hS.2.1 q h1 h2)⟩
  have hsum := (xsm_e hsm ad).2
  unfold okT at ht
  split at ht
  · rename_i is _ ic _ _ _
    obtain ⟨ht, t10⟩ := x_and2 ht
    obtain ⟨ht, t9⟩ := x_and2 ht
    obtain ⟨ht, t8⟩ := x_and2 ht
    obtain ⟨ht, t7⟩ := x_and2 ht
    obtain ⟨ht, t6⟩ := x_and2 ht
    obtain ⟨ht, t5⟩ := x_and2 ht
    obtain ⟨ht, t4⟩ := x_and2 ht
    obtain ⟨t1, t2, t3⟩ := x_and3 ht
    obtain ⟨z, hz, hz2⟩ := List.any_eq_true.mp t8
    have hz2 := of_decide_eq_true hz2
    obtain ⟨sa, hsa⟩ := hG.2.2.2.2.2.1 z hz
    have t1 := of_decide_eq_true t1
    rw [hz2, ← t1] at hsa
    refine vx_throwS (A := A) hx hb hfl hown (xExc_fit r1) xNames_fit (hts _ (xin_e t6)) (hts _ (xin_e t7)) hsa (fun w hw => ?_) (fun w hw => List.all_eq_true.mp t10 w hw) hG.2.2.1 hG.2.2.2.1 hS (hl.1.trans hml.symm) hd (of_decide_eq_true t2) (of_decide_eq_true t3) (of_decide_eq_true t4) (of_decide_eq_true t5) (fun x hx => (hex t1 x hx).elim)
      (by have := hR.1; show 2 + 3 < R.frames; omega) (by have := hR.2; show _ + (13 * (2 + 1) + 43) ≤ R.locals; omega) (Nat.le_trans h2 hmc) (Nat.le_trans h3 hms) hlocks post hS.2.2 h2 h3
    rcases (Bool.or_eq_true _ _).mp (List.all_eq_true.mp t9 w hw) with q | q
    · exact hts _ (xin_e q)
    · exact xOdd_use hG.2.2.2.2.2.2.2 _ (of_decide_eq_true q)
  · rename_i is _ ic _ _ _
    obtain ⟨ht, t10⟩ := x_and2 ht
    obtain ⟨ht, t9⟩ := x_and2 ht
    obtain ⟨ht, t8⟩ := x_and2 ht
    obtain ⟨ht, t7⟩ := x_and2 ht
    obtain ⟨ht, t6⟩ := x_and2 ht
    obtain ⟨ht, t5⟩ := x_and2 ht
    obtain ⟨ht, t4⟩ := x_and2 ht
    obtain ⟨t1, t2, t3⟩ := x_and3 ht
    obtain ⟨z, hz, hz2⟩ := List.any_eq_true.mp t8
    have hz2 := of_decide_eq_true hz2
    obtain ⟨sa, hsa⟩ := hG.2.2.2.2.2.1 z hz
    have t1 := of_decide_eq_true t1
    rw [hz2, ← t1] at hsa
    refine vx_throwSW (A := A) hx hb hfl hown (xExc_fit r1) xNames_fit (hts _ (xin_e t6)) (hts _ (xin_e t7)) hsa (fun w hw => ?_) (fun w hw => List.all_eq_true.mp t10 w hw) hG.2.2.1 hG.2.2.2.1 hS (hl.1.trans hml.symm) hd (of_decide_eq_true t2) (of_decide_eq_true t3) (of_decide_eq_true t4) (of_decide_eq_true t5) (fun x hx => (hex t1 x hx).elim)
      (by have := hR.1; show 2 + 3 < R.frames; omega) (by have := hR.2; show _ + (13 * (2 + 1) + 43) ≤ R.locals; omega) (Nat.le_trans h2 hmc) (Nat.le_trans h3 hms) hlocks post hS.2.2 h2 h3
    rcases (Bool.or_eq_true _ _).mp (List.all_eq_true.mp t9 w hw) with q | q
    · exact hts _ (xin_e q)
    · exact xOdd_use hG.2.2.2.2.2.2.2 _ (of_decide_eq_true q)
  · cases ht
end RXU
theorem x_ofW {l : Launch} {y : MethodName} {ws ws' : List Cond} {rm : Room} {Pc : Array Value → State → Prop} {Qc : Array Value → State → Outcome → State → Prop} {XC : String → State → State → Prop} {mc ms : Nat} {free : Addr → Prop} {cc : ByteArray} {maxL : Nat} {ret : Option FieldType}
    (hy : plainFor y = true) (hw : ws = Cond.code y cc maxL ret :: ws')
    (body : ∀ p e s m args below meth c s₁, BodyLoose p l y (headSpec ws rm) cc maxL ret e s m args below meth c s₁ → c.maxLocals = maxL → (∀ x ∈ c.exceptionTable.toList, False) → Pc args s →
      W p l e (headSpec ws rm).room s m args below meth c s.heap [] 0 0 (vx_MQ below Qc XC args s mc ms free) (entryFrame m args maxL)) : vx_Met l y ws rm Pc Qc XC mc ms free := by
  refine MetFree.of_bodySF (code := cc) (maxLocals := maxL) (ret := ret) hy ?_ ?_
  · intro args s m h hn
    obtain ⟨meth, c, h1, h2, h3, h4, h5, h6, -, -⟩ := Cond.code_spec hn (atoms_spec (ws := ws) h _ (by rw [hw]; exact List.mem_cons_self))
    exact ⟨meth, c, h1, h2, h3, h4, h5, h6⟩
  · intro p e s m args below meth c s₁ B hml hP _
    have hh0 : s₁.heap = s.heap := by rw [B.state]; rfl
    have ht : ∀ x ∈ c.exceptionTable.toList, False := by
      obtain ⟨meth9, c9, h1, h2, -, -, -, -, h7, -⟩ := Cond.code_spec B.named (atoms_spec (ws := ws) B.pre _ (by rw [hw]; exact List.mem_cons_self))
      cases Option.some.inj (h1.symm.trans B.method)
      cases Option.some.inj (h2.symm.trans (Stand.of_body B).code)
      intro x hx
      rw [Array.isEmpty_iff.mp h7] at hx
      cases hx
    obtain ⟨t, a1, o, b1, b2, b3⟩ := body p e s m args below meth c s₁ B hml ht hP s₁ hh0 (Stand.of_body B)
    exact ⟨t, o, a1, b1, b2, b3⟩
theorem x_sound {T : List xM} {KT : List (Nat × Nat)} {HT : List (Nat × Nat × Nat × Nat)} {l : Launch} (hT : ∀ i q, T[i]? = some q → okM T KT HT i q = true) (hfl : l.stackTraces = false) : ∀ d, xSound T l d := by
  intro d
  induction d with
  | zero => intro M args h Q X hev; exact hev.elim
  | succ d ihd =>
    rintro M as h Q X ⟨q, hq, hlen, hev⟩
    refine ⟨q, hq, fun D cy ad0 sz => ?_⟩
    have hok := hT M q hq
    obtain ⟨k1, k2, k3, k4, k5, -, ⟨B0, hB0, hpc0⟩, k7⟩ := okM_e hok
    refine x_ofW (cc := q.2.1) (maxL := q.2.2.1) (ret := q.2.2.2.1) k4 rfl ?_
    rintro p e s m args below meth c s₁ B hml hex ⟨rfl, hsz, hP, hK, hD, hG⟩
    subst hsz
    have hts0 : ∀ w ∈ (Cond.code q.1 q.2.1 q.2.2.1 q.2.2.2.1 :: xTB), w.before ((as.map (cv ad0)).toArray) s = true := atoms_spec (ws := Cond.code q.1 q.2.1 q.2.2.1 q.2.2.2.1 :: xTB) B.pre
    have hin : meth.name = q.1.name := (name_of_methodNamed B.named B.method).1
    have hAt : ∀ z, s.heap.size ≤ z → va_A (xw cy ad0 h) s.heap.size z := fun z hz => Or.inr hz
    have C : xCtx p l s m ((as.map (cv ad0)).toArray) meth c q.1 q.2.1 q.2.2.1 q.2.2.2.1 D cy (va_A (xw cy ad0 h) s.heap.size) (ad0 1000) :=
      ⟨B.exec, B.bytes, B.returns, hml, findClass_of_methodNamed B.named, fun w hw => hts0 w (List.mem_cons_of_mem _ hw), B.notSynchronized, hin, fun _ => hex, hK, hAt, hG, hfl⟩
    have hRR : xR (d + 1) (headSpec (Cond.code q.1 q.2.1 q.2.2.1 q.2.2.2.1 :: xTB) (xrm (d + 1) q.2.2.2.2.1 q.2.2.2.2.2.1)).room := ⟨Nat.le_refl _, Nat.le_refl _⟩
    have hgo := hev Q X (fun _ _ h => h) (fun _ _ h => h) (fun b L st g cs ss => ∀ Bb, q.2.2.2.2.2.2.2[b]? = some Bb → xW p l e (headSpec (Cond.code q.1 q.2.1 q.2.2.1 q.2.2.2.1 :: xTB) (xrm (d + 1) q.2.2.2.2.1 q.2.2.2.2.2.1)).room s m ((as.map (cv ad0)).toArray) below meth c (vx_MQ below (xQc D cy ad0 h.length q.2.2.2.2.2.2.1 (va_A (xw cy ad0 h) s.heap.size) Q) (xXc D cy ad0 h.length q.2.2.2.2.2.2.1 (va_A (xw cy ad0 h) s.heap.size) X) ((as.map (cv ad0)).toArray) s q.2.2.2.2.1 q.2.2.2.2.2.1 (va_A (xw cy ad0 h) s.heap.size)) D cy (va_A (xw cy ad0 h) s.heap.size) ad0 h.length q.2.2.2.2.2.2.1 q.2.2.1 q.2.2.2.2.1 q.2.2.2.2.2.1 Bb.1 L st g cs ss)
      (fun b Bb L st g cs ss hBb hw Bc hBc => by
        obtain rfl : Bb = Bc := Option.some.inj (hBb.symm.trans hBc)
        exact x_step hT ihd C hRR (Nat.le_refl _) (Nat.le_refl _) (fun lst z => by cases z)
          (fun ins pc v g cs ss L h1 h2 h3 h4 h5 => x_end C ins pc v g cs ss L h1 h2 h3 h4 h5)
          (fun ik pc r1 es g cs ss L st h1 h2 h3 h4 h5 h6 => x_thr C hRR (Nat.le_refl _) (Nat.le_refl _) ik pc r1 es g cs ss L st h1 h2 h3 h4 h5 h6)
          (fun b B L st g cs ss h1 h2 => h2 B h1) Bb.2.2 Bb.2.1 Bb.1 L st g cs ss (k7 Bb (List.mem_of_getElem? hBb)) hw)
    have hgo := hgo B0 hB0
    rw [hpc0] at hgo
    have hl := lv_entry (as.map (cv ad0)) (n := q.2.2.1) (by rw [xfl_lg]; exact hlen)
    rw [lg_entry_eq]
    exact hgo (Nat.zero_le _) (Nat.zero_le _) ad0 s.heap [] _ (Nat.le_refl _) (fun _ _ => rfl) (fun _ => rfl) (xent_len hlen) (xent_has hl) hP hD.self va_S.rf
end
section
/-! ===== the methods as blocks: written by program out of the listing ===== -/
abbrev k_J_bitCount_0 : List xE := [(.iload_n 0, 1, 0, 0, .null, []), (.iload_n 0, 1, 0, 0, .null, []), (.iconst 1, 1, 0, 0, .int (nI 1), []), (.iushr, 1, 0, 0, .null, []), (.ldc_w 265, 3, 0, 0, .int (nI 1431655765), []), (.iand, 1, 0, 0, .null, []), (.isub, 1, 0, 0, .null, []), (.istore_n 0, 1, 0, 0, .null, []), (.iload_n 0, 1, 0, 0, .null, []), (.ldc_w 266, 3, 0, 0, .int (nI 858993459), []), (.iand, 1, 0, 0, .null, []), (.iload_n 0, 1, 0, 0, .null, []), (.iconst 2, 1, 0, 0, .int (nI 2), []), (.iushr, 1, 0, 0, .null, []), (.ldc_w 266, 3, 0, 0, .int (nI 858993459), []), (.iand, 1, 0, 0, .null, []), (.iadd, 1, 0, 0, .null, []), (.istore_n 0, 1, 0, 0, .null, []), (.iload_n 0, 1, 0, 0, .null, []), (.iload_n 0, 1, 0, 0, .null, []), (.iconst 4, 1, 0, 0, .int (nI 4), []), (.iushr, 1, 0, 0, .null, []), (.iadd, 1, 0, 0, .null, []), (.ldc_w 267, 3, 0, 0, .int (nI 252645135), []), (.iand, 1, 0, 0, .null, []), (.istore_n 0, 1, 0, 0, .null, []), (.iload_n 0, 1, 0, 0, .null, []), (.iload_n 0, 1, 0, 0, .null, []), (.bipush 8, 2, 0, 0, .int (nI 8), []), (.iushr, 1, 0, 0, .null, []), (.iadd, 1, 0, 0, .null, []), (.istore_n 0, 1, 0, 0, .null, []), (.iload_n 0, 1, 0, 0, .null, []), (.iload_n 0, 1, 0, 0, .null, []), (.bipush 16, 2, 0, 0, .int (nI 16), []), (.iushr, 1, 0, 0, .null, []), (.iadd, 1, 0, 0, .null, []), (.istore_n 0, 1, 0, 0, .null, []), (.iload_n 0, 1, 0, 0, .null, []), (.bipush 63, 2, 0, 0, .int (nI 63), []), (.iand, 1, 0, 0, .null, []), (.ireturn, 1, 0, 0, .null, [])]
def b_J_bitCount : List xB := [(0, k_J_bitCount_0, 1)]
def m_J_bitCount : xM := (yJ6_bitCount_0f7a4, cJ6_bitCount_0f7a4, 1, (some .int), 0, 0, false, b_J_bitCount)
abbrev N_J_bitCount : Nat := 0
abbrev k_J_max_0 : List xE := [(.iload_n 0, 1, 0, 0, .null, []), (.iload_n 1, 1, 0, 0, .null, []), (.if_icmp .lt 7, 3, 1, 0, .null, []), (.iload_n 0, 1, 0, 0, .null, []), (.goto 4, 3, 2, 0, .null, [])]
abbrev k_J_max_1 : List xE := [(.iload_n 1, 1, 0, 0, .null, [])]
abbrev k_J_max_2 : List xE := [(.ireturn, 1, 0, 0, .null, [])]
def b_J_max : List xB := [(0, k_J_max_0, 3), (9, k_J_max_1, 2), (10, k_J_max_2, 3)]
def m_J_max : xM := (yJ9_max_7cf53, cJ9_max_7cf53, 2, (some .int), 0, 0, false, b_J_max)
abbrev N_J_max : Nat := 1
abbrev k_J_min_0 : List xE := [(.iload_n 0, 1, 0, 0, .null, []), (.iload_n 1, 1, 0, 0, .null, []), (.if_icmp .gt 7, 3, 1, 0, .null, []), (.iload_n 0, 1, 0, 0, .null, []), (.goto 4, 3, 2, 0, .null, [])]
abbrev k_J_min_1 : List xE := [(.iload_n 1, 1, 0, 0, .null, [])]
abbrev k_J_min_2 : List xE := [(.ireturn, 1, 0, 0, .null, [])]
def b_J_min : List xB := [(0, k_J_min_0, 3), (9, k_J_min_1, 2), (10, k_J_min_2, 3)]
def m_J_min : xM := (yJ9_min_7cf53, cJ9_min_7cf53, 2, (some .int), 0, 0, false, b_J_min)
abbrev N_J_min : Nat := 2
abbrev k_P_bit_0 : List xE := [(.iconst 1, 1, 0, 0, .int (nI 1), []), (.getstatic 9, 3, 0, 0, .ref 56, []), (.iload_n 0, 1, 0, 0, .null, []), (.iaload, 1, 0, 0, .null, []), (.iload_n 1, 1, 0, 0, .null, []), (.iadd, 1, 0, 0, .null, []), (.ishl, 1, 0, 0, .null, []), (.ireturn, 1, 0, 0, .null, [])]
def b_P_bit : List xB := [(0, k_P_bit_0, 1)]
def m_P_bit : xM := (yX1_bit, cX1_bit, 2, (some .int), 0, 0, false, b_P_bit)
abbrev N_P_bit : Nat := 3
abbrev k_P_bitsOf_0 : List xE := [(.iload_n 0, 1, 0, 0, .null, []), (.getstatic 9, 3, 0, 0, .ref 56, []), (.iload_n 1, 1, 0, 0, .null, []), (.iaload, 1, 0, 0, .null, []), (.ishr, 1, 0, 0, .null, []), (.iconst 1, 1, 0, 0, .int (nI 1), []), (.iconst 5, 1, 0, 0, .int (nI 5), []), (.iload_n 1, 1, 0, 0, .null, []), (.isub, 1, 0, 0, .null, []), (.ishl, 1, 0, 0, .null, []), (.iconst 1, 1, 0, 0, .int (nI 1), []), (.isub, 1, 0, 0, .null, []), (.iand, 1, 0, 0, .null, []), (.ireturn, 1, 0, 0, .null, [])]
def b_P_bitsOf : List xB := [(0, k_P_bitsOf_0, 1)]
def m_P_bitsOf : xM := (yX1_bitsOf, cX1_bitsOf, 2, (some .int), 0, 0, false, b_P_bitsOf)
abbrev N_P_bitsOf : Nat := 4
abbrev k_P_hasBottle_0 : List xE := [(.iload_n 0, 1, 0, 0, .null, []), (.iload_n 1, 1, 0, 0, .null, []), (.iload_n 2, 1, 0, 0, .null, []), (.invokestatic 15, 3, 3, 2, .ref 369, [0]), (.iand, 1, 0, 0, .null, []), (.ifCond .eq 7, 3, 1, 0, .null, []), (.iconst 1, 1, 0, 0, .int (nI 1), []), (.goto 4, 3, 2, 0, .null, [])]
abbrev k_P_hasBottle_1 : List xE := [(.iconst 0, 1, 0, 0, .int (nI 0), [])]
abbrev k_P_hasBottle_2 : List xE := [(.ireturn, 1, 0, 0, .null, [])]
def b_P_hasBottle : List xB := [(0, k_P_hasBottle_0, 3), (14, k_P_hasBottle_1, 2), (15, k_P_hasBottle_2, 3)]
def m_P_hasBottle : xM := (yX1_hasBottle, cX1_hasBottle, 3, (some .boolean), 0, 0, false, b_P_hasBottle)
abbrev N_P_hasBottle : Nat := 5
abbrev k_P_hasRoom_0 : List xE := [(.iload_n 0, 1, 0, 0, .null, []), (.iload_n 1, 1, 0, 0, .null, []), (.iload_n 2, 1, 0, 0, .null, []), (.invokestatic 19, 3, 5, 3, .ref 388, [0]), (.ifCond .eq 5, 3, 1, 0, .null, []), (.iconst 0, 1, 0, 0, .int (nI 0), []), (.ireturn, 1, 0, 0, .null, [])]
abbrev k_P_hasRoom_1 : List xE := [(.iload_n 1, 1, 0, 0, .null, []), (.ifCond .eq 27, 3, 2, 0, .null, []), (.iload_n 0, 1, 0, 0, .null, []), (.iload_n 1, 1, 0, 0, .null, []), (.iconst 1, 1, 0, 0, .int (nI 1), []), (.isub, 1, 0, 0, .null, []), (.iload_n 2, 1, 0, 0, .null, []), (.invokestatic 19, 3, 5, 3, .ref 388, [0]), (.ifCond .eq 20, 3, 3, 0, .null, []), (.iload_n 0, 1, 0, 0, .null, []), (.iload_n 1, 1, 0, 0, .null, []), (.iconst 1, 1, 0, 0, .int (nI 1), []), (.isub, 1, 0, 0, .null, []), (.iload_n 2, 1, 0, 0, .null, []), (.iconst 1, 1, 0, 0, .int (nI 1), []), (.iadd, 1, 0, 0, .null, []), (.invokestatic 19, 3, 5, 3, .ref 388, [0]), (.ifCond .eq 7, 3, 3, 0, .null, [])]
abbrev k_P_hasRoom_2 : List xE := [(.iconst 1, 1, 0, 0, .int (nI 1), []), (.goto 4, 3, 4, 0, .null, [])]
abbrev k_P_hasRoom_3 : List xE := [(.iconst 0, 1, 0, 0, .int (nI 0), [])]
abbrev k_P_hasRoom_4 : List xE := [(.ireturn, 1, 0, 0, .null, [])]
def b_P_hasRoom : List xB := [(0, k_P_hasRoom_0, 5), (11, k_P_hasRoom_1, 2), (39, k_P_hasRoom_2, 5), (43, k_P_hasRoom_3, 4), (44, k_P_hasRoom_4, 5)]
def m_P_hasRoom : xM := (yX1_hasRoom, cX1_hasRoom, 3, (some .boolean), 0, 0, false, b_P_hasRoom)
abbrev N_P_hasRoom : Nat := 6
abbrev k_P_settled_0 : List xE := [(.iload_n 0, 1, 0, 0, .null, []), (.bipush 31, 2, 0, 0, .int (nI 31), []), (.iand, 1, 0, 0, .null, []), (.istore_n 1, 1, 0, 0, .null, []), (.iload_n 1, 1, 0, 0, .null, []), (.istore_n 2, 1, 0, 0, .null, []), (.iconst 1, 1, 0, 0, .int (nI 1), []), (.istore_n 3, 1, 0, 0, .null, [])]
abbrev k_P_settled_1 : List xE := [(.iload_n 3, 1, 0, 0, .null, []), (.iconst 5, 1, 0, 0, .int (nI 5), []), (.if_icmp .ge 33, 3, 2, 0, .null, []), (.iload_n 0, 1, 0, 0, .null, []), (.getstatic 9, 3, 0, 0, .ref 56, []), (.iload_n 3, 1, 0, 0, .null, []), (.iaload, 1, 0, 0, .null, []), (.ishr, 1, 0, 0, .null, []), (.iload_n 2, 1, 0, 0, .null, []), (.iand, 1, 0, 0, .null, []), (.iload_n 2, 1, 0, 0, .null, []), (.iconst 1, 1, 0, 0, .int (nI 1), []), (.ishr, 1, 0, 0, .null, []), (.iand, 1, 0, 0, .null, []), (.istore_n 2, 1, 0, 0, .null, []), (.iload_n 1, 1, 0, 0, .null, []), (.iload_n 2, 1, 0, 0, .null, []), (.getstatic 9, 3, 0, 0, .ref 56, []), (.iload_n 3, 1, 0, 0, .null, []), (.iaload, 1, 0, 0, .null, []), (.ishl, 1, 0, 0, .null, []), (.ior, 1, 0, 0, .null, []), (.istore_n 1, 1, 0, 0, .null, []), (.iinc 3 1, 3, 0, 0, .int (nI 1), []), (.goto (-32), 3, 1, 0, .null, [])]
abbrev k_P_settled_2 : List xE := [(.iload_n 1, 1, 0, 0, .null, []), (.ireturn, 1, 0, 0, .null, [])]
def b_P_settled : List xB := [(0, k_P_settled_0, 1), (9, k_P_settled_1, 3), (44, k_P_settled_2, 3)]
def m_P_settled : xM := (yX1_settled, cX1_settled, 4, (some .int), 0, 0, false, b_P_settled)
abbrev N_P_settled : Nat := 7
abbrev k_P_mirrored_0 : List xE := [(.iconst 0, 1, 0, 0, .int (nI 0), []), (.istore_n 1, 1, 0, 0, .null, []), (.iconst 0, 1, 0, 0, .int (nI 0), []), (.istore_n 2, 1, 0, 0, .null, [])]
abbrev k_P_mirrored_1 : List xE := [(.iload_n 2, 1, 0, 0, .null, []), (.iconst 5, 1, 0, 0, .int (nI 5), []), (.if_icmp .ge 45, 3, 5, 0, .null, []), (.iconst 0, 1, 0, 0, .int (nI 0), []), (.istore_n 3, 1, 0, 0, .null, [])]
abbrev k_P_mirrored_2 : List xE := [(.iload_n 3, 1, 0, 0, .null, []), (.iconst 5, 1, 0, 0, .int (nI 5), []), (.iload_n 2, 1, 0, 0, .null, []), (.isub, 1, 0, 0, .null, []), (.if_icmp .ge 30, 3, 4, 0, .null, []), (.iload_n 0, 1, 0, 0, .null, []), (.iload_n 2, 1, 0, 0, .null, []), (.iload_n 3, 1, 0, 0, .null, []), (.invokestatic 19, 3, 5, 3, .ref 388, [0]), (.ifCond .eq 15, 3, 3, 0, .null, []), (.iload_n 1, 1, 0, 0, .null, []), (.iload_n 2, 1, 0, 0, .null, []), (.iconst 4, 1, 0, 0, .int (nI 4), []), (.iload_n 2, 1, 0, 0, .null, []), (.isub, 1, 0, 0, .null, []), (.iload_n 3, 1, 0, 0, .null, []), (.isub, 1, 0, 0, .null, []), (.invokestatic 15, 3, 3, 2, .ref 369, [0]), (.ior, 1, 0, 0, .null, []), (.istore_n 1, 1, 0, 0, .null, [])]
abbrev k_P_mirrored_3 : List xE := [(.iinc 3 1, 3, 0, 0, .int (nI 1), []), (.goto (-31), 3, 2, 0, .null, [])]
abbrev k_P_mirrored_4 : List xE := [(.iinc 2 1, 3, 0, 0, .int (nI 1), []), (.goto (-44), 3, 1, 0, .null, [])]
abbrev k_P_mirrored_5 : List xE := [(.iload_n 1, 1, 0, 0, .null, []), (.ireturn, 1, 0, 0, .null, [])]
def b_P_mirrored : List xB := [(0, k_P_mirrored_0, 1), (4, k_P_mirrored_1, 2), (11, k_P_mirrored_2, 3), (39, k_P_mirrored_3, 6), (45, k_P_mirrored_4, 6), (51, k_P_mirrored_5, 6)]
def m_P_mirrored : xM := (yX1_mirrored, cX1_mirrored, 4, (some .int), 0, 0, false, b_P_mirrored)
abbrev N_P_mirrored : Nat := 8
abbrev k_P_robbed_0 : List xE := [(.iload_n 0, 1, 0, 0, .null, []), (.istore 4, 2, 0, 0, .null, []), (.iload_n 3, 1, 0, 0, .null, []), (.istore 5, 2, 0, 0, .null, []), (.iconst 0, 1, 0, 0, .int (nI 0), []), (.istore 6, 2, 0, 0, .null, [])]
abbrev k_P_robbed_1 : List xE := [(.iload 6, 2, 0, 0, .null, []), (.iconst 5, 1, 0, 0, .int (nI 5), []), (.iload_n 2, 1, 0, 0, .null, []), (.isub, 1, 0, 0, .null, []), (.if_icmp .ge 63, 3, 5, 0, .null, []), (.iload 5, 2, 0, 0, .null, []), (.ifCond .le 58, 3, 5, 0, .null, []), (.iload_n 1, 1, 0, 0, .null, []), (.ifCond .ne 8, 3, 2, 0, .null, []), (.iload 6, 2, 0, 0, .null, []), (.goto 9, 3, 3, 0, .null, [])]
abbrev k_P_robbed_2 : List xE := [(.iconst 4, 1, 0, 0, .int (nI 4), []), (.iload_n 2, 1, 0, 0, .null, []), (.isub, 1, 0, 0, .null, []), (.iload 6, 2, 0, 0, .null, []), (.isub, 1, 0, 0, .null, [])]
abbrev k_P_robbed_3 : List xE := [(.istore 7, 2, 0, 0, .null, []), (.iconst 1, 1, 0, 0, .int (nI 1), []), (.getstatic 9, 3, 0, 0, .ref 56, []), (.iload_n 2, 1, 0, 0, .null, []), (.iaload, 1, 0, 0, .null, []), (.iload 7, 2, 0, 0, .null, []), (.iadd, 1, 0, 0, .null, []), (.ishl, 1, 0, 0, .null, []), (.istore 8, 2, 0, 0, .null, []), (.iload 4, 2, 0, 0, .null, []), (.iload 8, 2, 0, 0, .null, []), (.iand, 1, 0, 0, .null, []), (.ifCond .eq 15, 3, 4, 0, .null, []), (.iload 4, 2, 0, 0, .null, []), (.iload 8, 2, 0, 0, .null, []), (.iconst (-1), 1, 0, 0, .int (-1), []), (.ixor, 1, 0, 0, .null, []), (.iand, 1, 0, 0, .null, []), (.istore 4, 2, 0, 0, .null, []), (.iinc 5 (-1), 3, 0, 0, .int (-1), [])]
abbrev k_P_robbed_4 : List xE := [(.iinc 6 1, 3, 0, 0, .int (nI 1), []), (.goto (-65), 3, 1, 0, .null, [])]
abbrev k_P_robbed_5 : List xE := [(.iload 5, 2, 0, 0, .null, []), (.ifCond .ne 8, 3, 6, 0, .null, []), (.iload 4, 2, 0, 0, .null, []), (.goto 4, 3, 7, 0, .null, [])]
abbrev k_P_robbed_6 : List xE := [(.iconst (-1), 1, 0, 0, .int (-1), [])]
abbrev k_P_robbed_7 : List xE := [(.ireturn, 1, 0, 0, .null, [])]
def b_P_robbed : List xB := [(0, k_P_robbed_0, 1), (9, k_P_robbed_1, 8), (31, k_P_robbed_2, 3), (37, k_P_robbed_3, 4), (71, k_P_robbed_4, 8), (77, k_P_robbed_5, 8), (87, k_P_robbed_6, 7), (88, k_P_robbed_7, 8)]
def m_P_robbed : xM := (yX1_robbed, cX1_robbed, 9, (some .int), 0, 0, false, b_P_robbed)
abbrev N_P_robbed : Nat := 9
abbrev k_P_fallenBy_0 : List xE := [(.iload_n 0, 1, 0, 0, .null, []), (.iload_n 1, 1, 0, 0, .null, []), (.iload_n 2, 1, 0, 0, .null, []), (.iload_n 3, 1, 0, 0, .null, []), (.invokestatic 23, 3, 9, 4, .ref 134, [0]), (.istore 4, 2, 0, 0, .null, []), (.iload 4, 2, 0, 0, .null, []), (.iconst (-1), 1, 0, 0, .int (-1), []), (.if_icmp .ne 7, 3, 1, 0, .null, []), (.iconst (-1), 1, 0, 0, .int (-1), []), (.goto 17, 3, 2, 0, .null, [])]
abbrev k_P_fallenBy_1 : List xE := [(.iload 4, 2, 0, 0, .null, []), (.invokestatic 27, 3, 0, 1, .ref 137, [0]), (.iload 4, 2, 0, 0, .null, []), (.invokestatic 33, 3, 7, 1, .ref 138, [0]), (.invokestatic 27, 3, 0, 1, .ref 137, [0]), (.isub, 1, 0, 0, .null, [])]
abbrev k_P_fallenBy_2 : List xE := [(.ireturn, 1, 0, 0, .null, [])]
def b_P_fallenBy : List xB := [(0, k_P_fallenBy_0, 3), (19, k_P_fallenBy_1, 2), (33, k_P_fallenBy_2, 3)]
def m_P_fallenBy : xM := (yX1_fallenBy, cX1_fallenBy, 5, (some .int), 0, 0, false, b_P_fallenBy)
abbrev N_P_fallenBy : Nat := 10
abbrev k_P_allShapes_0 : List xE := [(.sipush 132, 3, 0, 0, .int (nI 132), []), (.newarray .int, 2, 0, 0, .null, []), (.astore_n 0, 1, 0, 0, .null, []), (.aload_n 0, 1, 0, 0, .null, []), (.iconst 0, 1, 0, 0, .int (nI 0), []), (.iconst 4, 1, 0, 0, .int (nI 4), []), (.iconst 0, 1, 0, 0, .int (nI 0), []), (.invokestatic 36, 3, 12, 4, .ref 50, [0]), (.pop, 1, 0, 0, .null, []), (.aload_n 0, 1, 0, 0, .null, []), (.areturn, 1, 0, 0, .null, [])]
def b_P_allShapes : List xB := [(0, k_P_allShapes_0, 1)]
def m_P_allShapes : xM := (yX1_allShapes, cX1_allShapes, 1, (some (.array .int)), 1, 132, true, b_P_allShapes)
abbrev N_P_allShapes : Nat := 11
abbrev k_P_addShapes_0 : List xE := [(.iload_n 2, 1, 0, 0, .null, []), (.ifCond .ge 17, 3, 2, 0, .null, []), (.iload_n 1, 1, 0, 0, .null, []), (.aload_n 0, 1, 0, 0, .null, []), (.arraylength, 1, 0, 0, .null, []), (.if_icmp .ge 7, 3, 1, 0, .null, []), (.aload_n 0, 1, 0, 0, .null, []), (.iload_n 1, 1, 0, 0, .null, []), (.iload_n 3, 1, 0, 0, .null, []), (.iastore, 1, 0, 0, .null, [])]
abbrev k_P_addShapes_1 : List xE := [(.iload_n 1, 1, 0, 0, .null, []), (.iconst 1, 1, 0, 0, .int (nI 1), []), (.iadd, 1, 0, 0, .null, []), (.ireturn, 1, 0, 0, .null, [])]
abbrev k_P_addShapes_2 : List xE := [(.iload_n 2, 1, 0, 0, .null, []), (.iconst 4, 1, 0, 0, .int (nI 4), []), (.if_icmp .ne 7, 3, 3, 0, .null, []), (.iconst 0, 1, 0, 0, .int (nI 0), []), (.goto 10, 3, 4, 0, .null, [])]
abbrev k_P_addShapes_3 : List xE := [(.iload_n 3, 1, 0, 0, .null, []), (.iload_n 2, 1, 0, 0, .null, []), (.iconst 1, 1, 0, 0, .int (nI 1), []), (.iadd, 1, 0, 0, .null, []), (.invokestatic 40, 3, 4, 2, .ref 53, [0])]
abbrev k_P_addShapes_4 : List xE := [(.istore 4, 2, 0, 0, .null, []), (.iload 4, 2, 0, 0, .null, []), (.iload 4, 2, 0, 0, .null, []), (.iconst 1, 1, 0, 0, .int (nI 1), []), (.ishl, 1, 0, 0, .null, []), (.ior, 1, 0, 0, .null, []), (.istore 5, 2, 0, 0, .null, []), (.iload_n 1, 1, 0, 0, .null, []), (.istore 6, 2, 0, 0, .null, []), (.iconst 0, 1, 0, 0, .int (nI 0), []), (.istore 7, 2, 0, 0, .null, [])]
abbrev k_P_addShapes_5 : List xE := [(.iload 7, 2, 0, 0, .null, []), (.iconst 1, 1, 0, 0, .int (nI 1), []), (.iconst 5, 1, 0, 0, .int (nI 5), []), (.iload_n 2, 1, 0, 0, .null, []), (.isub, 1, 0, 0, .null, []), (.ishl, 1, 0, 0, .null, []), (.if_icmp .ge 40, 3, 7, 0, .null, []), (.iload 7, 2, 0, 0, .null, []), (.iload 5, 2, 0, 0, .null, []), (.iand, 1, 0, 0, .null, []), (.iload 5, 2, 0, 0, .null, []), (.if_icmp .ne 24, 3, 6, 0, .null, []), (.aload_n 0, 1, 0, 0, .null, []), (.iload 6, 2, 0, 0, .null, []), (.iload_n 2, 1, 0, 0, .null, []), (.iconst 1, 1, 0, 0, .int (nI 1), []), (.isub, 1, 0, 0, .null, []), (.iload_n 3, 1, 0, 0, .null, []), (.iload 7, 2, 0, 0, .null, []), (.getstatic 9, 3, 0, 0, .ref 56, []), (.iload_n 2, 1, 0, 0, .null, []), (.iaload, 1, 0, 0, .null, []), (.ishl, 1, 0, 0, .null, []), (.ior, 1, 0, 0, .null, []), (.invokestatic 36, 3, 12, 4, .ref 50, [0]), (.istore 6, 2, 0, 0, .null, [])]
abbrev k_P_addShapes_6 : List xE := [(.iinc 7 1, 3, 0, 0, .int (nI 1), []), (.goto (-44), 3, 5, 0, .null, [])]
abbrev k_P_addShapes_7 : List xE := [(.iload 6, 2, 0, 0, .null, []), (.ireturn, 1, 0, 0, .null, [])]
def b_P_addShapes : List xB := [(0, k_P_addShapes_0, 1), (14, k_P_addShapes_1, 8), (18, k_P_addShapes_2, 8), (27, k_P_addShapes_3, 4), (34, k_P_addShapes_4, 5), (51, k_P_addShapes_5, 6), (92, k_P_addShapes_6, 8), (98, k_P_addShapes_7, 8)]
def m_P_addShapes : xM := (yX1_addShapes, cX1_addShapes, 8, (some .int), 0, 0, false, b_P_addShapes)
abbrev N_P_addShapes : Nat := 12
abbrev k_L_init_0 : List xE := [(.aload_n 0, 1, 0, 0, .null, []), (.invokespecial 3, 3, 901, 0, .null, []), (.aload_n 0, 1, 0, 0, .null, []), (.aload_n 1, 1, 0, 0, .null, []), (.putfield 9, 3, 0, 0, .ref 250, [2]), (.aload_n 0, 1, 0, 0, .null, []), (.iload_n 2, 1, 0, 0, .null, []), (.putfield 15, 3, 0, 1, .ref 251, [0]), (.aload_n 0, 1, 0, 0, .null, []), (.iload_n 3, 1, 0, 0, .null, []), (.putfield 19, 3, 0, 2, .ref 252, [1]), (.aload_n 0, 1, 0, 0, .null, []), (.iload 4, 2, 0, 0, .null, []), (.putfield 23, 3, 0, 3, .ref 253, [1]), (.aload_n 0, 1, 0, 0, .null, []), (.iconst 2, 1, 0, 0, .int (nI 2), []), (.aload_n 1, 1, 0, 0, .null, []), (.arraylength, 1, 0, 0, .null, []), (.imul, 1, 0, 0, .null, []), (.newarray .boolean, 2, 0, 0, .null, []), (.putfield 26, 3, 0, 4, .ref 254, [2]), (.aload_n 0, 1, 0, 0, .null, []), (.iconst 2, 1, 0, 0, .int (nI 2), []), (.aload_n 1, 1, 0, 0, .null, []), (.arraylength, 1, 0, 0, .null, []), (.imul, 1, 0, 0, .null, []), (.newarray .int, 2, 0, 0, .null, []), (.putfield 30, 3, 0, 5, .ref 255, [2]), (.aload_n 0, 1, 0, 0, .null, []), (.iconst 2, 1, 0, 0, .int (nI 2), []), (.aload_n 1, 1, 0, 0, .null, []), (.arraylength, 1, 0, 0, .null, []), (.imul, 1, 0, 0, .null, []), (.newarray .int, 2, 0, 0, .null, []), (.putfield 33, 3, 0, 6, .ref 256, [2]), (.iconst 0, 1, 0, 0, .int (nI 0), []), (.istore 5, 2, 0, 0, .null, [])]
abbrev k_L_init_1 : List xE := [(.iload 5, 2, 0, 0, .null, []), (.aload_n 1, 1, 0, 0, .null, []), (.arraylength, 1, 0, 0, .null, []), (.if_icmp .ge 23, 3, 2, 0, .null, []), (.aload_n 0, 1, 0, 0, .null, []), (.iconst 0, 1, 0, 0, .int (nI 0), []), (.iload 5, 2, 0, 0, .null, []), (.invokevirtual 36, 3, 14, 3, .ref 230, [0]), (.aload_n 0, 1, 0, 0, .null, []), (.iconst 1, 1, 0, 0, .int (nI 1), []), (.iload 5, 2, 0, 0, .null, []), (.invokevirtual 36, 3, 14, 3, .ref 230, [0]), (.iinc 5 1, 3, 0, 0, .int (nI 1), []), (.goto (-24), 3, 1, 0, .null, [])]
abbrev k_L_init_2 : List xE := [(.return_, 1, 0, 0, .null, [])]
def b_L_init : List xB := [(0, k_L_init_0, 1), (58, k_L_init_1, 3), (85, k_L_init_2, 3)]
def m_L_init : xM := (yX2_init, cX2_init, 6, none, 3, 792, true, b_L_init)
abbrev N_L_init : Nat := 13
abbrev k_L_playOut_0 : List xE := [(.iconst 1, 1, 0, 0, .int (nI 1), []), (.istore_n 3, 1, 0, 0, .null, []), (.iconst 0, 1, 0, 0, .int (nI 0), []), (.istore 4, 2, 0, 0, .null, []), (.iconst 0, 1, 0, 0, .int (nI 0), []), (.istore 5, 2, 0, 0, .null, []), (.iconst 0, 1, 0, 0, .int (nI 0), []), (.istore 6, 2, 0, 0, .null, []), (.iconst 0, 1, 0, 0, .int (nI 0), []), (.istore 7, 2, 0, 0, .null, [])]
abbrev k_L_playOut_1 : List xE := [(.iload 7, 2, 0, 0, .null, []), (.iconst 5, 1, 0, 0, .int (nI 5), []), (.if_icmp .ge 122, 3, 10, 0, .null, []), (.iconst 1, 1, 0, 0, .int (nI 1), []), (.istore 8, 2, 0, 0, .null, [])]
abbrev k_L_playOut_2 : List xE := [(.iload 8, 2, 0, 0, .null, []), (.aload_n 0, 1, 0, 0, .null, []), (.getfield 15, 3, 0, 1, .ref 251, []), (.if_icmp .gt 104, 3, 9, 0, .null, []), (.aload_n 0, 1, 0, 0, .null, []), (.iload_n 1, 1, 0, 0, .null, []), (.aload_n 0, 1, 0, 0, .null, []), (.getfield 9, 3, 0, 0, .ref 250, []), (.iload_n 2, 1, 0, 0, .null, []), (.iaload, 1, 0, 0, .null, []), (.iload 7, 2, 0, 0, .null, []), (.iload 8, 2, 0, 0, .null, []), (.invokevirtual 40, 3, 15, 5, .ref 234, [0]), (.istore 9, 2, 0, 0, .null, []), (.iload 9, 2, 0, 0, .null, []), (.iconst (-1), 1, 0, 0, .int (-1), []), (.if_icmp .eq 75, 3, 8, 0, .null, []), (.iload 4, 2, 0, 0, .null, []), (.ifCond .ne 13, 3, 3, 0, .null, []), (.aload_n 0, 1, 0, 0, .null, []), (.getfield 26, 3, 0, 4, .ref 254, []), (.iload 9, 2, 0, 0, .null, []), (.baload, 1, 0, 0, .null, []), (.ifCond .ne 7, 3, 4, 0, .null, [])]
abbrev k_L_playOut_3 : List xE := [(.iconst 1, 1, 0, 0, .int (nI 1), []), (.goto 4, 3, 5, 0, .null, [])]
abbrev k_L_playOut_4 : List xE := [(.iconst 0, 1, 0, 0, .int (nI 0), [])]
abbrev k_L_playOut_5 : List xE := [(.istore 4, 2, 0, 0, .null, []), (.iload 5, 2, 0, 0, .null, []), (.aload_n 0, 1, 0, 0, .null, []), (.getfield 30, 3, 0, 5, .ref 255, []), (.iload 9, 2, 0, 0, .null, []), (.iaload, 1, 0, 0, .null, []), (.iconst 1, 1, 0, 0, .int (nI 1), []), (.iadd, 1, 0, 0, .null, []), (.invokestatic 44, 3, 1, 2, .ref 244, [0]), (.istore 5, 2, 0, 0, .null, []), (.iload_n 3, 1, 0, 0, .null, []), (.ifCond .eq 15, 3, 6, 0, .null, []), (.aload_n 0, 1, 0, 0, .null, []), (.getfield 33, 3, 0, 6, .ref 256, []), (.iload 9, 2, 0, 0, .null, []), (.iaload, 1, 0, 0, .null, []), (.iconst 1, 1, 0, 0, .int (nI 1), []), (.iadd, 1, 0, 0, .null, []), (.goto 17, 3, 7, 0, .null, [])]
abbrev k_L_playOut_6 : List xE := [(.iload 6, 2, 0, 0, .null, []), (.aload_n 0, 1, 0, 0, .null, []), (.getfield 33, 3, 0, 6, .ref 256, []), (.iload 9, 2, 0, 0, .null, []), (.iaload, 1, 0, 0, .null, []), (.iconst 1, 1, 0, 0, .int (nI 1), []), (.iadd, 1, 0, 0, .null, []), (.invokestatic 50, 3, 2, 2, .ref 247, [0])]
abbrev k_L_playOut_7 : List xE := [(.istore 6, 2, 0, 0, .null, []), (.iconst 0, 1, 0, 0, .int (nI 0), []), (.istore_n 3, 1, 0, 0, .null, [])]
abbrev k_L_playOut_8 : List xE := [(.iinc 8 1, 3, 0, 0, .int (nI 1), []), (.goto (-107), 3, 2, 0, .null, [])]
abbrev k_L_playOut_9 : List xE := [(.iinc 7 1, 3, 0, 0, .int (nI 1), []), (.goto (-122), 3, 1, 0, .null, [])]
abbrev k_L_playOut_10 : List xE := [(.iconst 2, 1, 0, 0, .int (nI 2), []), (.iload_n 2, 1, 0, 0, .null, []), (.imul, 1, 0, 0, .null, []), (.iload_n 1, 1, 0, 0, .null, []), (.iadd, 1, 0, 0, .null, []), (.istore 7, 2, 0, 0, .null, []), (.aload_n 0, 1, 0, 0, .null, []), (.getfield 26, 3, 0, 4, .ref 254, []), (.iload 7, 2, 0, 0, .null, []), (.iload_n 3, 1, 0, 0, .null, []), (.ifCond .eq 10, 3, 11, 0, .null, []), (.aload_n 0, 1, 0, 0, .null, []), (.getfield 23, 3, 0, 3, .ref 253, []), (.goto 5, 3, 12, 0, .null, [])]
abbrev k_L_playOut_11 : List xE := [(.iload 4, 2, 0, 0, .null, [])]
abbrev k_L_playOut_12 : List xE := [(.bastore, 1, 0, 0, .null, []), (.aload_n 0, 1, 0, 0, .null, []), (.getfield 30, 3, 0, 5, .ref 255, []), (.iload 7, 2, 0, 0, .null, []), (.iload 5, 2, 0, 0, .null, []), (.iastore, 1, 0, 0, .null, []), (.aload_n 0, 1, 0, 0, .null, []), (.getfield 33, 3, 0, 6, .ref 256, []), (.iload 7, 2, 0, 0, .null, []), (.iload 6, 2, 0, 0, .null, []), (.iastore, 1, 0, 0, .null, []), (.return_, 1, 0, 0, .null, [])]
def b_L_playOut : List xB := [(0, k_L_playOut_0, 1), (14, k_L_playOut_1, 2), (23, k_L_playOut_2, 3), (70, k_L_playOut_3, 13), (74, k_L_playOut_4, 5), (75, k_L_playOut_5, 13), (109, k_L_playOut_6, 7), (123, k_L_playOut_7, 8), (127, k_L_playOut_8, 13), (133, k_L_playOut_9, 13), (139, k_L_playOut_10, 13), (163, k_L_playOut_11, 12), (165, k_L_playOut_12, 13)]
def m_L_playOut : xM := (yX2_playOut, cX2_playOut, 10, none, 0, 0, false, b_L_playOut)
abbrev N_L_playOut : Nat := 14
abbrev k_L_slotBehind_0 : List xE := [(.iload_n 2, 1, 0, 0, .null, []), (.iload_n 1, 1, 0, 0, .null, []), (.iload_n 3, 1, 0, 0, .null, []), (.iload 4, 2, 0, 0, .null, []), (.invokestatic 53, 3, 9, 4, .retAddr 3, [0]), (.istore 5, 2, 0, 0, .null, []), (.iload 5, 2, 0, 0, .null, []), (.iconst (-1), 1, 0, 0, .int (-1), []), (.if_icmp .ne 5, 3, 1, 0, .null, []), (.iconst (-1), 1, 0, 0, .int (-1), []), (.ireturn, 1, 0, 0, .null, [])]
abbrev k_L_slotBehind_1 : List xE := [(.iload 5, 2, 0, 0, .null, []), (.invokestatic 58, 3, 7, 1, .retAddr 4, [0]), (.istore 6, 2, 0, 0, .null, []), (.aload_n 0, 1, 0, 0, .null, []), (.getfield 19, 3, 0, 2, .ref 252, []), (.ifCond .eq 14, 3, 2, 0, .null, []), (.iload 6, 2, 0, 0, .null, []), (.iload 5, 2, 0, 0, .null, []), (.if_icmp .eq 7, 3, 2, 0, .null, []), (.iconst (-1), 1, 0, 0, .int (-1), []), (.goto 12, 3, 3, 0, .null, [])]
abbrev k_L_slotBehind_2 : List xE := [(.aload_n 0, 1, 0, 0, .null, []), (.iconst 1, 1, 0, 0, .int (nI 1), []), (.iload_n 1, 1, 0, 0, .null, []), (.isub, 1, 0, 0, .null, []), (.iload 6, 2, 0, 0, .null, []), (.invokevirtual 62, 3, 16, 3, .ref 240, [0])]
abbrev k_L_slotBehind_3 : List xE := [(.ireturn, 1, 0, 0, .null, [])]
def b_L_slotBehind : List xB := [(0, k_L_slotBehind_0, 4), (18, k_L_slotBehind_1, 4), (43, k_L_slotBehind_2, 3), (52, k_L_slotBehind_3, 4)]
def m_L_slotBehind : xM := (yX2_slotBehind, cX2_slotBehind, 7, (some .int), 0, 0, false, b_L_slotBehind)
abbrev N_L_slotBehind : Nat := 15
abbrev k_L_slotOf_0 : List xE := [(.iconst 0, 1, 0, 0, .int (nI 0), []), (.istore_n 3, 1, 0, 0, .null, []), (.aload_n 0, 1, 0, 0, .null, []), (.getfield 9, 3, 0, 0, .ref 250, []), (.arraylength, 1, 0, 0, .null, []), (.iconst 1, 1, 0, 0, .int (nI 1), []), (.isub, 1, 0, 0, .null, []), (.istore 4, 2, 0, 0, .null, []), (.iconst 0, 1, 0, 0, .int (nI 0), []), (.istore 5, 2, 0, 0, .null, [])]
abbrev k_L_slotOf_1 : List xE := [(.iload 5, 2, 0, 0, .null, []), (.aload_n 0, 1, 0, 0, .null, []), (.getfield 9, 3, 0, 0, .ref 250, []), (.arraylength, 1, 0, 0, .null, []), (.if_icmp .ge 66, 3, 5, 0, .null, []), (.iload_n 3, 1, 0, 0, .null, []), (.iload 4, 2, 0, 0, .null, []), (.if_icmp .gt 60, 3, 5, 0, .null, []), (.iload_n 3, 1, 0, 0, .null, []), (.iload 4, 2, 0, 0, .null, []), (.iadd, 1, 0, 0, .null, []), (.iconst 2, 1, 0, 0, .int (nI 2), []), (.idiv, 1, 0, 0, .null, []), (.istore 6, 2, 0, 0, .null, []), (.aload_n 0, 1, 0, 0, .null, []), (.getfield 9, 3, 0, 0, .ref 250, []), (.iload 6, 2, 0, 0, .null, []), (.iaload, 1, 0, 0, .null, []), (.iload_n 2, 1, 0, 0, .null, []), (.if_icmp .ne 10, 3, 2, 0, .null, []), (.iconst 2, 1, 0, 0, .int (nI 2), []), (.iload 6, 2, 0, 0, .null, []), (.imul, 1, 0, 0, .null, []), (.iload_n 1, 1, 0, 0, .null, []), (.iadd, 1, 0, 0, .null, []), (.ireturn, 1, 0, 0, .null, [])]
abbrev k_L_slotOf_2 : List xE := [(.aload_n 0, 1, 0, 0, .null, []), (.getfield 9, 3, 0, 0, .ref 250, []), (.iload 6, 2, 0, 0, .null, []), (.iaload, 1, 0, 0, .null, []), (.iload_n 2, 1, 0, 0, .null, []), (.if_icmp .ge 11, 3, 3, 0, .null, []), (.iload 6, 2, 0, 0, .null, []), (.iconst 1, 1, 0, 0, .int (nI 1), []), (.iadd, 1, 0, 0, .null, []), (.istore_n 3, 1, 0, 0, .null, []), (.goto 9, 3, 4, 0, .null, [])]
abbrev k_L_slotOf_3 : List xE := [(.iload 6, 2, 0, 0, .null, []), (.iconst 1, 1, 0, 0, .int (nI 1), []), (.isub, 1, 0, 0, .null, []), (.istore 4, 2, 0, 0, .null, [])]
abbrev k_L_slotOf_4 : List xE := [(.iinc 5 1, 3, 0, 0, .int (nI 1), []), (.goto (-70), 3, 1, 0, .null, [])]
abbrev k_L_slotOf_5 : List xE := [(.iconst (-1), 1, 0, 0, .int (-1), []), (.ireturn, 1, 0, 0, .null, [])]
def b_L_slotOf : List xB := [(0, k_L_slotOf_0, 1), (14, k_L_slotOf_1, 6), (56, k_L_slotOf_2, 6), (75, k_L_slotOf_3, 4), (81, k_L_slotOf_4, 6), (87, k_L_slotOf_5, 6)]
def m_L_slotOf : xM := (yX2_slotOf, cX2_slotOf, 7, (some .int), 0, 0, false, b_L_slotOf)
abbrev N_L_slotOf : Nat := 16
abbrev k_L_isWonBy_0 : List xE := [(.aload_n 0, 1, 0, 0, .null, []), (.iload_n 1, 1, 0, 0, .null, []), (.iload_n 2, 1, 0, 0, .null, []), (.invokevirtual 62, 3, 16, 3, .ref 240, [0]), (.istore_n 3, 1, 0, 0, .null, []), (.iload_n 3, 1, 0, 0, .null, []), (.iconst (-1), 1, 0, 0, .int (-1), []), (.if_icmp .eq 16, 3, 1, 0, .null, []), (.aload_n 0, 1, 0, 0, .null, []), (.getfield 26, 3, 0, 4, .ref 254, []), (.iload_n 3, 1, 0, 0, .null, []), (.baload, 1, 0, 0, .null, []), (.ifCond .eq 7, 3, 1, 0, .null, []), (.iconst 1, 1, 0, 0, .int (nI 1), []), (.goto 4, 3, 2, 0, .null, [])]
abbrev k_L_isWonBy_1 : List xE := [(.iconst 0, 1, 0, 0, .int (nI 0), [])]
abbrev k_L_isWonBy_2 : List xE := [(.ireturn, 1, 0, 0, .null, [])]
def b_L_isWonBy : List xB := [(0, k_L_isWonBy_0, 3), (25, k_L_isWonBy_1, 2), (26, k_L_isWonBy_2, 3)]
def m_L_isWonBy : xM := (yX2_isWonBy, cX2_isWonBy, 4, (some .boolean), 0, 0, false, b_L_isWonBy)
abbrev N_L_isWonBy : Nat := 17
abbrev k_L_longestGame_0 : List xE := [(.aload_n 0, 1, 0, 0, .null, []), (.iload_n 1, 1, 0, 0, .null, []), (.iload_n 2, 1, 0, 0, .null, []), (.invokevirtual 62, 3, 16, 3, .ref 240, [0]), (.istore_n 3, 1, 0, 0, .null, []), (.iload_n 3, 1, 0, 0, .null, []), (.iconst (-1), 1, 0, 0, .int (-1), []), (.if_icmp .ne 7, 3, 1, 0, .null, []), (.iconst 0, 1, 0, 0, .int (nI 0), []), (.goto 9, 3, 2, 0, .null, [])]
abbrev k_L_longestGame_1 : List xE := [(.aload_n 0, 1, 0, 0, .null, []), (.getfield 30, 3, 0, 5, .ref 255, []), (.iload_n 3, 1, 0, 0, .null, []), (.iaload, 1, 0, 0, .null, [])]
abbrev k_L_longestGame_2 : List xE := [(.ireturn, 1, 0, 0, .null, [])]
def b_L_longestGame : List xB := [(0, k_L_longestGame_0, 3), (16, k_L_longestGame_1, 2), (22, k_L_longestGame_2, 3)]
def m_L_longestGame : xM := (yX2_longestGame, cX2_longestGame, 4, (some .int), 0, 0, false, b_L_longestGame)
abbrev N_L_longestGame : Nat := 18
abbrev k_L_shortestGame_0 : List xE := [(.aload_n 0, 1, 0, 0, .null, []), (.iload_n 1, 1, 0, 0, .null, []), (.iload_n 2, 1, 0, 0, .null, []), (.invokevirtual 62, 3, 16, 3, .ref 240, [0]), (.istore_n 3, 1, 0, 0, .null, []), (.iload_n 3, 1, 0, 0, .null, []), (.iconst (-1), 1, 0, 0, .int (-1), []), (.if_icmp .ne 7, 3, 1, 0, .null, []), (.iconst 0, 1, 0, 0, .int (nI 0), []), (.goto 9, 3, 2, 0, .null, [])]
abbrev k_L_shortestGame_1 : List xE := [(.aload_n 0, 1, 0, 0, .null, []), (.getfield 33, 3, 0, 6, .ref 256, []), (.iload_n 3, 1, 0, 0, .null, []), (.iaload, 1, 0, 0, .null, [])]
abbrev k_L_shortestGame_2 : List xE := [(.ireturn, 1, 0, 0, .null, [])]
def b_L_shortestGame : List xB := [(0, k_L_shortestGame_0, 3), (16, k_L_shortestGame_1, 2), (22, k_L_shortestGame_2, 3)]
def m_L_shortestGame : xM := (yX2_shortestGame, cX2_shortestGame, 4, (some .int), 0, 0, false, b_L_shortestGame)
abbrev N_L_shortestGame : Nat := 19
abbrev k_L_shapesWonBy_0 : List xE := [(.iconst 0, 1, 0, 0, .int (nI 0), []), (.istore_n 2, 1, 0, 0, .null, []), (.iconst 0, 1, 0, 0, .int (nI 0), []), (.istore_n 3, 1, 0, 0, .null, [])]
abbrev k_L_shapesWonBy_1 : List xE := [(.iload_n 3, 1, 0, 0, .null, []), (.aload_n 0, 1, 0, 0, .null, []), (.getfield 9, 3, 0, 0, .ref 250, []), (.arraylength, 1, 0, 0, .null, []), (.if_icmp .ge 30, 3, 4, 0, .null, []), (.iload_n 2, 1, 0, 0, .null, []), (.aload_n 0, 1, 0, 0, .null, []), (.getfield 26, 3, 0, 4, .ref 254, []), (.iconst 2, 1, 0, 0, .int (nI 2), []), (.iload_n 3, 1, 0, 0, .null, []), (.imul, 1, 0, 0, .null, []), (.iload_n 1, 1, 0, 0, .null, []), (.iadd, 1, 0, 0, .null, []), (.baload, 1, 0, 0, .null, []), (.ifCond .eq 7, 3, 2, 0, .null, []), (.iconst 1, 1, 0, 0, .int (nI 1), []), (.goto 4, 3, 3, 0, .null, [])]
abbrev k_L_shapesWonBy_2 : List xE := [(.iconst 0, 1, 0, 0, .int (nI 0), [])]
abbrev k_L_shapesWonBy_3 : List xE := [(.iadd, 1, 0, 0, .null, []), (.istore_n 2, 1, 0, 0, .null, []), (.iinc 3 1, 3, 0, 0, .int (nI 1), []), (.goto (-33), 3, 1, 0, .null, [])]
abbrev k_L_shapesWonBy_4 : List xE := [(.iload_n 2, 1, 0, 0, .null, []), (.ireturn, 1, 0, 0, .null, [])]
def b_L_shapesWonBy : List xB := [(0, k_L_shapesWonBy_0, 1), (4, k_L_shapesWonBy_1, 5), (31, k_L_shapesWonBy_2, 3), (32, k_L_shapesWonBy_3, 5), (40, k_L_shapesWonBy_4, 5)]
def m_L_shapesWonBy : xM := (yX2_shapesWonBy, cX2_shapesWonBy, 4, (some .int), 0, 0, false, b_L_shapesWonBy)
abbrev N_L_shapesWonBy : Nat := 20
abbrev k_L_shapesOver_0 : List xE := [(.iconst 0, 1, 0, 0, .int (nI 0), []), (.istore_n 1, 1, 0, 0, .null, []), (.iconst 0, 1, 0, 0, .int (nI 0), []), (.istore_n 2, 1, 0, 0, .null, [])]
abbrev k_L_shapesOver_1 : List xE := [(.iload_n 2, 1, 0, 0, .null, []), (.aload_n 0, 1, 0, 0, .null, []), (.getfield 9, 3, 0, 0, .ref 250, []), (.arraylength, 1, 0, 0, .null, []), (.if_icmp .ge 41, 3, 4, 0, .null, []), (.iload_n 1, 1, 0, 0, .null, []), (.aload_n 0, 1, 0, 0, .null, []), (.getfield 30, 3, 0, 5, .ref 255, []), (.iconst 2, 1, 0, 0, .int (nI 2), []), (.iload_n 2, 1, 0, 0, .null, []), (.imul, 1, 0, 0, .null, []), (.iaload, 1, 0, 0, .null, []), (.ifCond .ne 20, 3, 2, 0, .null, []), (.aload_n 0, 1, 0, 0, .null, []), (.getfield 30, 3, 0, 5, .ref 255, []), (.iconst 2, 1, 0, 0, .int (nI 2), []), (.iload_n 2, 1, 0, 0, .null, []), (.imul, 1, 0, 0, .null, []), (.iconst 1, 1, 0, 0, .int (nI 1), []), (.iadd, 1, 0, 0, .null, []), (.iaload, 1, 0, 0, .null, []), (.ifCond .ne 7, 3, 2, 0, .null, []), (.iconst 1, 1, 0, 0, .int (nI 1), []), (.goto 4, 3, 3, 0, .null, [])]
abbrev k_L_shapesOver_2 : List xE := [(.iconst 0, 1, 0, 0, .int (nI 0), [])]
abbrev k_L_shapesOver_3 : List xE := [(.iadd, 1, 0, 0, .null, []), (.istore_n 1, 1, 0, 0, .null, []), (.iinc 2 1, 3, 0, 0, .int (nI 1), []), (.goto (-44), 3, 1, 0, .null, [])]
abbrev k_L_shapesOver_4 : List xE := [(.iload_n 1, 1, 0, 0, .null, []), (.ireturn, 1, 0, 0, .null, [])]
def b_L_shapesOver : List xB := [(0, k_L_shapesOver_0, 1), (4, k_L_shapesOver_1, 5), (42, k_L_shapesOver_2, 3), (43, k_L_shapesOver_3, 5), (51, k_L_shapesOver_4, 5)]
def m_L_shapesOver : xM := (yX2_shapesOver, cX2_shapesOver, 3, (some .int), 0, 0, false, b_L_shapesOver)
abbrev N_L_shapesOver : Nat := 21
abbrev k_B_init_0 : List xE := [(.aload_n 0, 1, 0, 0, .null, []), (.invokespecial 1, 3, 901, 0, .null, []), (.aload_n 0, 1, 0, 0, .null, []), (.bipush 18, 2, 0, 0, .int (nI 18), []), (.newarray .int, 2, 0, 0, .null, []), (.putfield 9, 3, 1, 0, .ref 60, [2]), (.aload_n 0, 1, 0, 0, .null, []), (.bipush 108, 2, 0, 0, .int (nI 108), []), (.newarray .int, 2, 0, 0, .null, []), (.putfield 13, 3, 1, 1, .ref 61, [2]), (.aload_n 0, 1, 0, 0, .null, []), (.iconst 0, 1, 0, 0, .int (nI 0), []), (.putfield 16, 3, 1, 2, .ref 62, [0]), (.aload_n 0, 1, 0, 0, .null, []), (.bipush 18, 2, 0, 0, .int (nI 18), []), (.newarray .int, 2, 0, 0, .null, []), (.putfield 20, 3, 1, 3, .ref 63, [2]), (.aload_n 0, 1, 0, 0, .null, []), (.iconst 0, 1, 0, 0, .int (nI 0), []), (.putfield 23, 3, 1, 4, .ref 64, [1]), (.aload_n 0, 1, 0, 0, .null, []), (.bipush 60, 2, 0, 0, .int (nI 60), []), (.newarray .char, 2, 0, 0, .null, []), (.putfield 27, 3, 1, 5, .ref 65, [2]), (.aload_n 0, 1, 0, 0, .null, []), (.iconst 0, 1, 0, 0, .int (nI 0), []), (.putfield 31, 3, 1, 6, .ref 66, [0]), (.aload_n 0, 1, 0, 0, .null, []), (.invokestatic 34, 3, 11, 0, .retAddr 0, [0, 1, 132, 1]), (.putfield 40, 3, 1, 7, .ref 67, [2]), (.aload_n 0, 1, 0, 0, .null, []), (.bipush 12, 2, 0, 0, .int (nI 12), []), (.anewarray 43, 3, 0, 0, .null, []), (.putfield 45, 3, 1, 8, .ref 68, [2]), (.aload_n 0, 1, 0, 0, .null, []), (.getfield 9, 3, 1, 0, .ref 60, []), (.iconst 0, 1, 0, 0, .int (nI 0), []), (.sipush 32767, 3, 0, 0, .int (nI 32767), []), (.iastore, 1, 0, 0, .null, []), (.aload_n 0, 1, 0, 0, .null, []), (.getfield 9, 3, 1, 0, .ref 60, []), (.iconst 3, 1, 0, 0, .int (nI 3), []), (.iconst 1, 1, 0, 0, .int (nI 1), []), (.iastore, 1, 0, 0, .null, []), (.return_, 1, 0, 0, .null, [])]
def b_B_init : List xB := [(0, k_B_init_0, 1)]
def m_B_init : xM := (yX3_init, cX3_init, 1, none, 6, 348, true, b_B_init)
abbrev N_B_init : Nat := 22
abbrev k_B_take_0 : List xE := [(.iload_n 1, 1, 0, 0, .null, []), (.invokestatic 49, 3, 44, 1, .ref 308, [0]), (.ifCond .ne 13, 3, 1, 0, .null, []), (.new 53, 3, 10, 0, .null, []), (.dup, 1, 0, 0, .null, []), (.ldc 55, 2, 0, 0, .null, []), (.invokespecial 57, 3, 0, 0, .null, []), (.athrow, 1, 0, 0, .null, [])]
abbrev k_B_take_1 : List xE := [(.iload_n 2, 1, 0, 0, .null, []), (.iconst 1, 1, 0, 0, .int (nI 1), []), (.if_icmp .lt 13, 3, 2, 0, .null, []), (.iload_n 2, 1, 0, 0, .null, []), (.aload_n 0, 1, 0, 0, .null, []), (.getfield 9, 3, 1, 0, .ref 60, []), (.iconst 3, 1, 0, 0, .int (nI 3), []), (.iaload, 1, 0, 0, .null, []), (.if_icmp .le 13, 3, 3, 0, .null, [])]
abbrev k_B_take_2 : List xE := [(.new 60, 3, 11, 0, .null, []), (.dup, 1, 0, 0, .null, []), (.ldc 62, 2, 0, 0, .null, []), (.invokespecial 64, 3, 0, 0, .null, []), (.athrow, 1, 0, 0, .null, [])]
abbrev k_B_take_3 : List xE := [(.aload_n 0, 1, 0, 0, .null, []), (.iload_n 1, 1, 0, 0, .null, []), (.iload_n 2, 1, 0, 0, .null, []), (.invokevirtual 65, 3, 49, 3, .ref 127, [1]), (.ifCond .eq 13, 3, 4, 0, .null, []), (.new 69, 3, 12, 0, .null, []), (.dup, 1, 0, 0, .null, []), (.ldc 71, 2, 0, 0, .null, []), (.invokespecial 73, 3, 0, 0, .null, []), (.athrow, 1, 0, 0, .null, [])]
abbrev k_B_take_4 : List xE := [(.aload_n 0, 1, 0, 0, .null, []), (.invokevirtual 74, 3, 47, 1, .ref 94, [1]), (.aload_n 0, 1, 0, 0, .null, []), (.iload_n 1, 1, 0, 0, .null, []), (.iload_n 2, 1, 0, 0, .null, []), (.invokevirtual 77, 3, 51, 3, .ref 344, [1]), (.ireturn, 1, 0, 0, .null, [])]
def b_B_take : List xB := [(0, k_B_take_0, 5), (17, k_B_take_1, 2), (32, k_B_take_2, 5), (42, k_B_take_3, 5), (61, k_B_take_4, 5)]
def m_B_take : xM := (yX3_take, cX3_take, 3, (some .int), 1, 6, false, b_B_take)
abbrev N_B_take : Nat := 23
abbrev k_B_turn_0 : List xE := [(.iload_n 1, 1, 0, 0, .null, []), (.ifCond .lt 8, 3, 1, 0, .null, []), (.iload_n 1, 1, 0, 0, .null, []), (.iconst 1, 1, 0, 0, .int (nI 1), []), (.if_icmp .le 13, 3, 2, 0, .null, [])]
abbrev k_B_turn_1 : List xE := [(.new 60, 3, 11, 0, .null, []), (.dup, 1, 0, 0, .null, []), (.ldc 80, 2, 0, 0, .null, []), (.invokespecial 64, 3, 0, 0, .null, []), (.athrow, 1, 0, 0, .null, [])]
abbrev k_B_turn_2 : List xE := [(.aload_n 0, 1, 0, 0, .null, []), (.invokevirtual 74, 3, 47, 1, .ref 94, [1]), (.aload_n 0, 1, 0, 0, .null, []), (.getfield 9, 3, 1, 0, .ref 60, []), (.iconst 1, 1, 0, 0, .int (nI 1), []), (.iaload, 1, 0, 0, .null, []), (.istore_n 2, 1, 0, 0, .null, []), (.aload_n 0, 1, 0, 0, .null, []), (.getfield 9, 3, 1, 0, .ref 60, []), (.iconst 1, 1, 0, 0, .int (nI 1), []), (.iload_n 1, 1, 0, 0, .null, []), (.iastore, 1, 0, 0, .null, []), (.iload_n 2, 1, 0, 0, .null, []), (.ireturn, 1, 0, 0, .null, [])]
def b_B_turn : List xB := [(0, k_B_turn_0, 1), (9, k_B_turn_1, 3), (19, k_B_turn_2, 3)]
def m_B_turn : xM := (yX3_turn, cX3_turn, 3, (some .int), 1, 6, false, b_B_turn)
abbrev N_B_turn : Nat := 24
abbrev k_B_knock_0 : List xE := [(.iload_n 1, 1, 0, 0, .null, []), (.iload_n 2, 1, 0, 0, .null, []), (.invokestatic 82, 3, 45, 2, .ref 362, [0]), (.ifCond .ne 13, 3, 1, 0, .null, []), (.new 53, 3, 10, 0, .null, []), (.dup, 1, 0, 0, .null, []), (.ldc 86, 2, 0, 0, .null, []), (.invokespecial 57, 3, 0, 0, .null, []), (.athrow, 1, 0, 0, .null, [])]
abbrev k_B_knock_1 : List xE := [(.aload_n 0, 1, 0, 0, .null, []), (.getfield 9, 3, 1, 0, .ref 60, []), (.iconst 0, 1, 0, 0, .int (nI 0), []), (.iaload, 1, 0, 0, .null, []), (.iload_n 1, 1, 0, 0, .null, []), (.iload_n 2, 1, 0, 0, .null, []), (.invokestatic 88, 3, 5, 3, .retAddr 11, [0]), (.ifCond .ne 13, 3, 2, 0, .null, []), (.new 69, 3, 12, 0, .null, []), (.dup, 1, 0, 0, .null, []), (.ldc 92, 2, 0, 0, .null, []), (.invokespecial 73, 3, 0, 0, .null, []), (.athrow, 1, 0, 0, .null, [])]
abbrev k_B_knock_2 : List xE := [(.aload_n 0, 1, 0, 0, .null, []), (.invokevirtual 74, 3, 47, 1, .ref 94, [1]), (.aload_n 0, 1, 0, 0, .null, []), (.iload_n 1, 1, 0, 0, .null, []), (.iload_n 2, 1, 0, 0, .null, []), (.invokevirtual 94, 3, 52, 3, .ref 373, [1]), (.ireturn, 1, 0, 0, .null, [])]
def b_B_knock : List xB := [(0, k_B_knock_0, 3), (18, k_B_knock_1, 3), (42, k_B_knock_2, 3)]
def m_B_knock : xM := (yX3_knock, cX3_knock, 3, (some .int), 1, 6, false, b_B_knock)
abbrev N_B_knock : Nat := 25
abbrev k_B_put_0 : List xE := [(.iload_n 1, 1, 0, 0, .null, []), (.iload_n 2, 1, 0, 0, .null, []), (.invokestatic 82, 3, 45, 2, .ref 362, [0]), (.ifCond .ne 13, 3, 1, 0, .null, []), (.new 53, 3, 10, 0, .null, []), (.dup, 1, 0, 0, .null, []), (.ldc 86, 2, 0, 0, .null, []), (.invokespecial 57, 3, 0, 0, .null, []), (.athrow, 1, 0, 0, .null, [])]
abbrev k_B_put_1 : List xE := [(.aload_n 0, 1, 0, 0, .null, []), (.getfield 9, 3, 1, 0, .ref 60, []), (.iconst 0, 1, 0, 0, .int (nI 0), []), (.iaload, 1, 0, 0, .null, []), (.iload_n 1, 1, 0, 0, .null, []), (.iload_n 2, 1, 0, 0, .null, []), (.invokestatic 97, 3, 6, 3, .retAddr 16, [0]), (.ifCond .ne 13, 3, 2, 0, .null, []), (.new 69, 3, 12, 0, .null, []), (.dup, 1, 0, 0, .null, []), (.ldc 100, 2, 0, 0, .null, []), (.invokespecial 73, 3, 0, 0, .null, []), (.athrow, 1, 0, 0, .null, [])]
abbrev k_B_put_2 : List xE := [(.aload_n 0, 1, 0, 0, .null, []), (.invokevirtual 74, 3, 47, 1, .ref 94, [1]), (.aload_n 0, 1, 0, 0, .null, []), (.iload_n 1, 1, 0, 0, .null, []), (.iload_n 2, 1, 0, 0, .null, []), (.invokevirtual 102, 3, 54, 3, .ref 390, [1]), (.ireturn, 1, 0, 0, .null, [])]
def b_B_put : List xB := [(0, k_B_put_0, 3), (18, k_B_put_1, 3), (42, k_B_put_2, 3)]
def m_B_put : xM := (yX3_put, cX3_put, 3, (some .int), 1, 6, false, b_B_put)
abbrev N_B_put : Nat := 26
abbrev k_B_mirror_0 : List xE := [(.aload_n 0, 1, 0, 0, .null, []), (.invokevirtual 74, 3, 47, 1, .ref 94, [1]), (.aload_n 0, 1, 0, 0, .null, []), (.invokevirtual 105, 3, 55, 1, .ref 507, [1]), (.ireturn, 1, 0, 0, .null, [])]
def b_B_mirror : List xB := [(0, k_B_mirror_0, 1)]
def m_B_mirror : xM := (yX3_mirror, cX3_mirror, 1, (some .int), 0, 0, false, b_B_mirror)
abbrev N_B_mirror : Nat := 27
abbrev k_B_refill_0 : List xE := [(.aload_n 0, 1, 0, 0, .null, []), (.invokevirtual 74, 3, 47, 1, .ref 94, [1]), (.aload_n 0, 1, 0, 0, .null, []), (.invokevirtual 109, 3, 56, 1, .ref 101, [1]), (.ireturn, 1, 0, 0, .null, [])]
def b_B_refill : List xB := [(0, k_B_refill_0, 1)]
def m_B_refill : xM := (yX3_refill, cX3_refill, 1, (some .int), 0, 0, false, b_B_refill)
abbrev N_B_refill : Nat := 28
abbrev k_B_set_0 : List xE := [(.iload_n 1, 1, 0, 0, .null, []), (.invokestatic 112, 3, 46, 1, .ref 401, [0]), (.ifCond .ne 13, 3, 1, 0, .null, []), (.new 53, 3, 10, 0, .null, []), (.dup, 1, 0, 0, .null, []), (.ldc 115, 2, 0, 0, .null, []), (.invokespecial 57, 3, 0, 0, .null, []), (.athrow, 1, 0, 0, .null, [])]
abbrev k_B_set_1 : List xE := [(.iload_n 1, 1, 0, 0, .null, []), (.ifCond .ne 7, 3, 2, 0, .null, []), (.iconst 1, 1, 0, 0, .int (nI 1), []), (.goto 4, 3, 3, 0, .null, [])]
abbrev k_B_set_2 : List xE := [(.iconst 0, 1, 0, 0, .int (nI 0), [])]
abbrev k_B_set_3 : List xE := [(.istore_n 3, 1, 0, 0, .null, []), (.iload_n 1, 1, 0, 0, .null, []), (.ifCond .ne 7, 3, 4, 0, .null, []), (.iconst 3, 1, 0, 0, .int (nI 3), []), (.goto 4, 3, 5, 0, .null, [])]
abbrev k_B_set_4 : List xE := [(.iconst 1, 1, 0, 0, .int (nI 1), [])]
abbrev k_B_set_5 : List xE := [(.istore 4, 2, 0, 0, .null, []), (.iload_n 2, 1, 0, 0, .null, []), (.iload_n 3, 1, 0, 0, .null, []), (.if_icmp .lt 9, 3, 6, 0, .null, []), (.iload_n 2, 1, 0, 0, .null, []), (.iload 4, 2, 0, 0, .null, []), (.if_icmp .le 13, 3, 7, 0, .null, [])]
abbrev k_B_set_6 : List xE := [(.new 60, 3, 11, 0, .null, []), (.dup, 1, 0, 0, .null, []), (.ldc 117, 2, 0, 0, .null, []), (.invokespecial 64, 3, 0, 0, .null, []), (.athrow, 1, 0, 0, .null, [])]
abbrev k_B_set_7 : List xE := [(.aload_n 0, 1, 0, 0, .null, []), (.invokevirtual 74, 3, 47, 1, .ref 94, [1]), (.aload_n 0, 1, 0, 0, .null, []), (.getfield 9, 3, 1, 0, .ref 60, []), (.iconst 3, 1, 0, 0, .int (nI 3), []), (.iload_n 1, 1, 0, 0, .null, []), (.iadd, 1, 0, 0, .null, []), (.iaload, 1, 0, 0, .null, []), (.istore 5, 2, 0, 0, .null, []), (.aload_n 0, 1, 0, 0, .null, []), (.getfield 9, 3, 1, 0, .ref 60, []), (.iconst 3, 1, 0, 0, .int (nI 3), []), (.iload_n 1, 1, 0, 0, .null, []), (.iadd, 1, 0, 0, .null, []), (.iload_n 2, 1, 0, 0, .null, []), (.iastore, 1, 0, 0, .null, []), (.iload 5, 2, 0, 0, .null, []), (.ireturn, 1, 0, 0, .null, [])]
def b_B_set : List xB := [(0, k_B_set_0, 8), (17, k_B_set_1, 8), (25, k_B_set_2, 3), (26, k_B_set_3, 8), (35, k_B_set_4, 5), (36, k_B_set_5, 6), (49, k_B_set_6, 8), (59, k_B_set_7, 8)]
def m_B_set : xM := (yX3_set, cX3_set, 6, (some .int), 1, 6, false, b_B_set)
abbrev N_B_set : Nat := 29
abbrev k_B_keep_0 : List xE := [(.aload_n 0, 1, 0, 0, .null, []), (.getfield 9, 3, 1, 0, .ref 60, []), (.iconst 0, 1, 0, 0, .int (nI 0), []), (.aload_n 0, 1, 0, 0, .null, []), (.getfield 20, 3, 1, 3, .ref 63, []), (.iconst 0, 1, 0, 0, .int (nI 0), []), (.bipush 18, 2, 0, 0, .int (nI 18), []), (.invokestatic 137, 3, 900, 0, .null, []), (.aload_n 0, 1, 0, 0, .null, []), (.iconst 1, 1, 0, 0, .int (nI 1), []), (.putfield 23, 3, 1, 4, .ref 64, [1]), (.aload_n 0, 1, 0, 0, .null, []), (.getfield 9, 3, 1, 0, .ref 60, []), (.iconst 0, 1, 0, 0, .int (nI 0), []), (.iaload, 1, 0, 0, .null, []), (.ireturn, 1, 0, 0, .null, [])]
def b_B_keep : List xB := [(0, k_B_keep_0, 1)]
def m_B_keep : xM := (yX3_keep, cX3_keep, 1, (some .int), 0, 0, false, b_B_keep)
abbrev N_B_keep : Nat := 30
abbrev k_B_goBack_0 : List xE := [(.aload_n 0, 1, 0, 0, .null, []), (.getfield 23, 3, 1, 4, .ref 64, []), (.ifCond .ne 13, 3, 1, 0, .null, []), (.new 69, 3, 12, 0, .null, []), (.dup, 1, 0, 0, .null, []), (.ldc 143, 2, 0, 0, .null, []), (.invokespecial 73, 3, 0, 0, .null, []), (.athrow, 1, 0, 0, .null, [])]
abbrev k_B_goBack_1 : List xE := [(.aload_n 0, 1, 0, 0, .null, []), (.invokevirtual 74, 3, 47, 1, .ref 94, [1]), (.aload_n 0, 1, 0, 0, .null, []), (.getfield 20, 3, 1, 3, .ref 63, []), (.iconst 0, 1, 0, 0, .int (nI 0), []), (.aload_n 0, 1, 0, 0, .null, []), (.getfield 9, 3, 1, 0, .ref 60, []), (.iconst 0, 1, 0, 0, .int (nI 0), []), (.bipush 18, 2, 0, 0, .int (nI 18), []), (.invokestatic 137, 3, 900, 0, .null, []), (.aload_n 0, 1, 0, 0, .null, []), (.getfield 9, 3, 1, 0, .ref 60, []), (.iconst 0, 1, 0, 0, .int (nI 0), []), (.iaload, 1, 0, 0, .null, []), (.ireturn, 1, 0, 0, .null, [])]
def b_B_goBack : List xB := [(0, k_B_goBack_0, 2), (17, k_B_goBack_1, 2)]
def m_B_goBack : xM := (yX3_goBack, cX3_goBack, 1, (some .int), 1, 6, false, b_B_goBack)
abbrev N_B_goBack : Nat := 31
abbrev k_B_undo_0 : List xE := [(.aload_n 0, 1, 0, 0, .null, []), (.getfield 16, 3, 1, 2, .ref 62, []), (.ifCond .gt 13, 3, 1, 0, .null, []), (.new 69, 3, 12, 0, .null, []), (.dup, 1, 0, 0, .null, []), (.ldc 145, 2, 0, 0, .null, []), (.invokespecial 73, 3, 0, 0, .null, []), (.athrow, 1, 0, 0, .null, [])]
abbrev k_B_undo_1 : List xE := [(.aload_n 0, 1, 0, 0, .null, []), (.dup, 1, 0, 0, .null, []), (.getfield 16, 3, 1, 2, .ref 62, []), (.iconst 1, 1, 0, 0, .int (nI 1), []), (.isub, 1, 0, 0, .null, []), (.putfield 16, 3, 1, 2, .ref 62, [0]), (.aload_n 0, 1, 0, 0, .null, []), (.getfield 13, 3, 1, 1, .ref 61, []), (.aload_n 0, 1, 0, 0, .null, []), (.getfield 16, 3, 1, 2, .ref 62, []), (.bipush 18, 2, 0, 0, .int (nI 18), []), (.imul, 1, 0, 0, .null, []), (.aload_n 0, 1, 0, 0, .null, []), (.getfield 9, 3, 1, 0, .ref 60, []), (.iconst 0, 1, 0, 0, .int (nI 0), []), (.bipush 18, 2, 0, 0, .int (nI 18), []), (.invokestatic 137, 3, 900, 0, .null, []), (.aload_n 0, 1, 0, 0, .null, []), (.getfield 16, 3, 1, 2, .ref 62, []), (.ireturn, 1, 0, 0, .null, [])]
def b_B_undo : List xB := [(0, k_B_undo_0, 2), (17, k_B_undo_1, 2)]
def m_B_undo : xM := (yX3_undo, cX3_undo, 1, (some .int), 1, 6, false, b_B_undo)
abbrev N_B_undo : Nat := 32
abbrev k_B_row_0 : List xE := [(.iload_n 1, 1, 0, 0, .null, []), (.invokestatic 49, 3, 44, 1, .ref 308, [0]), (.ifCond .ne 13, 3, 1, 0, .null, []), (.new 53, 3, 10, 0, .null, []), (.dup, 1, 0, 0, .null, []), (.ldc 55, 2, 0, 0, .null, []), (.invokespecial 57, 3, 0, 0, .null, []), (.athrow, 1, 0, 0, .null, [])]
abbrev k_B_row_1 : List xE := [(.iload_n 2, 1, 0, 0, .null, []), (.tableswitch 90 0 5 #[38, 52, 58, 64, 70, 80], 38, 8, 0, .null, [2, 3, 4, 5, 6, 7])]
abbrev k_B_row_2 : List xE := [(.aload_n 0, 1, 0, 0, .null, []), (.getfield 9, 3, 1, 0, .ref 60, []), (.iconst 0, 1, 0, 0, .int (nI 0), []), (.iaload, 1, 0, 0, .null, []), (.iload_n 1, 1, 0, 0, .null, []), (.invokestatic 147, 3, 4, 2, .retAddr 10, [0]), (.invokestatic 150, 3, 0, 1, .ref 105, [0]), (.ireturn, 1, 0, 0, .null, [])]
abbrev k_B_row_3 : List xE := [(.aload_n 0, 1, 0, 0, .null, []), (.iload_n 1, 1, 0, 0, .null, []), (.invokevirtual 156, 3, 57, 2, .ref 443, [1]), (.ireturn, 1, 0, 0, .null, [])]
abbrev k_B_row_4 : List xE := [(.aload_n 0, 1, 0, 0, .null, []), (.iload_n 1, 1, 0, 0, .null, []), (.invokevirtual 159, 3, 58, 2, .ref 447, [1]), (.ireturn, 1, 0, 0, .null, [])]
abbrev k_B_row_5 : List xE := [(.aload_n 0, 1, 0, 0, .null, []), (.iload_n 1, 1, 0, 0, .null, []), (.invokevirtual 162, 3, 59, 2, .ref 451, [1]), (.ireturn, 1, 0, 0, .null, [])]
abbrev k_B_row_6 : List xE := [(.aload_n 0, 1, 0, 0, .null, []), (.getfield 9, 3, 1, 0, .ref 60, []), (.bipush 6, 2, 0, 0, .int (nI 6), []), (.iload_n 1, 1, 0, 0, .null, []), (.iadd, 1, 0, 0, .null, []), (.iaload, 1, 0, 0, .null, []), (.ireturn, 1, 0, 0, .null, [])]
abbrev k_B_row_7 : List xE := [(.aload_n 0, 1, 0, 0, .null, []), (.getfield 9, 3, 1, 0, .ref 60, []), (.bipush 11, 2, 0, 0, .int (nI 11), []), (.iload_n 1, 1, 0, 0, .null, []), (.iadd, 1, 0, 0, .null, []), (.iaload, 1, 0, 0, .null, []), (.ireturn, 1, 0, 0, .null, [])]
abbrev k_B_row_8 : List xE := [(.new 60, 3, 11, 0, .null, []), (.dup, 1, 0, 0, .null, []), (.ldc 165, 2, 0, 0, .null, []), (.invokespecial 64, 3, 0, 0, .null, []), (.athrow, 1, 0, 0, .null, [])]
def b_B_row : List xB := [(0, k_B_row_0, 9), (17, k_B_row_1, 9), (56, k_B_row_2, 9), (70, k_B_row_3, 9), (76, k_B_row_4, 9), (82, k_B_row_5, 9), (88, k_B_row_6, 9), (98, k_B_row_7, 9), (108, k_B_row_8, 9)]
def m_B_row : xM := (yX3_row, cX3_row, 3, (some .int), 1, 6, false, b_B_row)
abbrev N_B_row : Nat := 33
abbrev k_B_count_0 : List xE := [(.iload_n 1, 1, 0, 0, .null, []), (.tableswitch 122 0 9 #[55, 62, 72, 79, 87, 95, 100, 107, 112, 117], 55, 11, 0, .null, [1, 2, 3, 4, 5, 6, 7, 8, 9, 10])]
abbrev k_B_count_1 : List xE := [(.aload_n 0, 1, 0, 0, .null, []), (.getfield 9, 3, 1, 0, .ref 60, []), (.iconst 0, 1, 0, 0, .int (nI 0), []), (.iaload, 1, 0, 0, .null, []), (.ireturn, 1, 0, 0, .null, [])]
abbrev k_B_count_2 : List xE := [(.aload_n 0, 1, 0, 0, .null, []), (.getfield 9, 3, 1, 0, .ref 60, []), (.iconst 0, 1, 0, 0, .int (nI 0), []), (.iaload, 1, 0, 0, .null, []), (.invokestatic 150, 3, 0, 1, .ref 105, [0]), (.ireturn, 1, 0, 0, .null, [])]
abbrev k_B_count_3 : List xE := [(.aload_n 0, 1, 0, 0, .null, []), (.getfield 9, 3, 1, 0, .ref 60, []), (.iconst 1, 1, 0, 0, .int (nI 1), []), (.iaload, 1, 0, 0, .null, []), (.ireturn, 1, 0, 0, .null, [])]
abbrev k_B_count_4 : List xE := [(.aload_n 0, 1, 0, 0, .null, []), (.getfield 9, 3, 1, 0, .ref 60, []), (.bipush 16, 2, 0, 0, .int (nI 16), []), (.iaload, 1, 0, 0, .null, []), (.ireturn, 1, 0, 0, .null, [])]
abbrev k_B_count_5 : List xE := [(.aload_n 0, 1, 0, 0, .null, []), (.getfield 9, 3, 1, 0, .ref 60, []), (.bipush 17, 2, 0, 0, .int (nI 17), []), (.iaload, 1, 0, 0, .null, []), (.ireturn, 1, 0, 0, .null, [])]
abbrev k_B_count_6 : List xE := [(.aload_n 0, 1, 0, 0, .null, []), (.invokevirtual 167, 3, 60, 1, .ref 119, [1]), (.ireturn, 1, 0, 0, .null, [])]
abbrev k_B_count_7 : List xE := [(.aload_n 0, 1, 0, 0, .null, []), (.getfield 9, 3, 1, 0, .ref 60, []), (.iconst 2, 1, 0, 0, .int (nI 2), []), (.iaload, 1, 0, 0, .null, []), (.ireturn, 1, 0, 0, .null, [])]
abbrev k_B_count_8 : List xE := [(.aload_n 0, 1, 0, 0, .null, []), (.invokevirtual 170, 3, 61, 1, .ref 123, [1]), (.ireturn, 1, 0, 0, .null, [])]
abbrev k_B_count_9 : List xE := [(.aload_n 0, 1, 0, 0, .null, []), (.invokevirtual 173, 3, 62, 1, .ref 145, [1]), (.ireturn, 1, 0, 0, .null, [])]
abbrev k_B_count_10 : List xE := [(.aload_n 0, 1, 0, 0, .null, []), (.getfield 16, 3, 1, 2, .ref 62, []), (.ireturn, 1, 0, 0, .null, [])]
abbrev k_B_count_11 : List xE := [(.new 60, 3, 11, 0, .null, []), (.dup, 1, 0, 0, .null, []), (.ldc 176, 2, 0, 0, .null, []), (.invokespecial 64, 3, 0, 0, .null, []), (.athrow, 1, 0, 0, .null, [])]
def b_B_count : List xB := [(0, k_B_count_0, 12), (56, k_B_count_1, 12), (63, k_B_count_2, 12), (73, k_B_count_3, 12), (80, k_B_count_4, 12), (88, k_B_count_5, 12), (96, k_B_count_6, 12), (101, k_B_count_7, 12), (108, k_B_count_8, 12), (113, k_B_count_9, 12), (118, k_B_count_10, 12), (123, k_B_count_11, 12)]
def m_B_count : xM := (yX3_count, cX3_count, 2, (some .int), 1, 6, false, b_B_count)
abbrev N_B_count : Nat := 34
abbrev k_B_setting_0 : List xE := [(.iload_n 1, 1, 0, 0, .null, []), (.invokestatic 112, 3, 46, 1, .ref 401, [0]), (.ifCond .ne 13, 3, 1, 0, .null, []), (.new 53, 3, 10, 0, .null, []), (.dup, 1, 0, 0, .null, []), (.ldc 115, 2, 0, 0, .null, []), (.invokespecial 57, 3, 0, 0, .null, []), (.athrow, 1, 0, 0, .null, [])]
abbrev k_B_setting_1 : List xE := [(.aload_n 0, 1, 0, 0, .null, []), (.getfield 9, 3, 1, 0, .ref 60, []), (.iconst 3, 1, 0, 0, .int (nI 3), []), (.iload_n 1, 1, 0, 0, .null, []), (.iadd, 1, 0, 0, .null, []), (.iaload, 1, 0, 0, .null, []), (.ireturn, 1, 0, 0, .null, [])]
def b_B_setting : List xB := [(0, k_B_setting_0, 2), (17, k_B_setting_1, 2)]
def m_B_setting : xM := (yX3_setting, cX3_setting, 2, (some .int), 1, 6, false, b_B_setting)
abbrev N_B_setting : Nat := 35
abbrev k_B_why_0 : List xE := [(.iload_n 1, 1, 0, 0, .null, []), (.invokestatic 49, 3, 44, 1, .ref 308, [0]), (.ifCond .ne 13, 3, 1, 0, .null, []), (.new 53, 3, 10, 0, .null, []), (.dup, 1, 0, 0, .null, []), (.ldc 55, 2, 0, 0, .null, []), (.invokespecial 57, 3, 0, 0, .null, []), (.athrow, 1, 0, 0, .null, [])]
abbrev k_B_why_1 : List xE := [(.iload_n 2, 1, 0, 0, .null, []), (.iconst 1, 1, 0, 0, .int (nI 1), []), (.if_icmp .lt 8, 3, 2, 0, .null, []), (.iload_n 2, 1, 0, 0, .null, []), (.iconst 5, 1, 0, 0, .int (nI 5), []), (.if_icmp .le 13, 3, 3, 0, .null, [])]
abbrev k_B_why_2 : List xE := [(.new 60, 3, 11, 0, .null, []), (.dup, 1, 0, 0, .null, []), (.ldc 62, 2, 0, 0, .null, []), (.invokespecial 64, 3, 0, 0, .null, []), (.athrow, 1, 0, 0, .null, [])]
abbrev k_B_why_3 : List xE := [(.aload_n 0, 1, 0, 0, .null, []), (.iload_n 1, 1, 0, 0, .null, []), (.iload_n 2, 1, 0, 0, .null, []), (.invokevirtual 65, 3, 49, 3, .ref 127, [1]), (.ireturn, 1, 0, 0, .null, [])]
def b_B_why : List xB := [(0, k_B_why_0, 4), (17, k_B_why_1, 2), (27, k_B_why_2, 4), (37, k_B_why_3, 4)]
def m_B_why : xM := (yX3_why, cX3_why, 3, (some .int), 1, 6, false, b_B_why)
abbrev N_B_why : Nat := 36
abbrev k_B_falls_0 : List xE := [(.iload_n 1, 1, 0, 0, .null, []), (.invokestatic 49, 3, 44, 1, .ref 308, [0]), (.ifCond .ne 13, 3, 1, 0, .null, []), (.new 53, 3, 10, 0, .null, []), (.dup, 1, 0, 0, .null, []), (.ldc 55, 2, 0, 0, .null, []), (.invokespecial 57, 3, 0, 0, .null, []), (.athrow, 1, 0, 0, .null, [])]
abbrev k_B_falls_1 : List xE := [(.iload_n 2, 1, 0, 0, .null, []), (.iconst 1, 1, 0, 0, .int (nI 1), []), (.if_icmp .lt 8, 3, 2, 0, .null, []), (.iload_n 2, 1, 0, 0, .null, []), (.iconst 5, 1, 0, 0, .int (nI 5), []), (.if_icmp .le 13, 3, 3, 0, .null, [])]
abbrev k_B_falls_2 : List xE := [(.new 60, 3, 11, 0, .null, []), (.dup, 1, 0, 0, .null, []), (.ldc 62, 2, 0, 0, .null, []), (.invokespecial 64, 3, 0, 0, .null, []), (.athrow, 1, 0, 0, .null, [])]
abbrev k_B_falls_3 : List xE := [(.aload_n 0, 1, 0, 0, .null, []), (.getfield 9, 3, 1, 0, .ref 60, []), (.iconst 0, 1, 0, 0, .int (nI 0), []), (.iaload, 1, 0, 0, .null, []), (.aload_n 0, 1, 0, 0, .null, []), (.getfield 9, 3, 1, 0, .ref 60, []), (.iconst 1, 1, 0, 0, .int (nI 1), []), (.iaload, 1, 0, 0, .null, []), (.iload_n 1, 1, 0, 0, .null, []), (.iload_n 2, 1, 0, 0, .null, []), (.invokestatic 178, 3, 10, 4, .retAddr 5, [0]), (.ireturn, 1, 0, 0, .null, [])]
def b_B_falls : List xB := [(0, k_B_falls_0, 4), (17, k_B_falls_1, 2), (27, k_B_falls_2, 4), (37, k_B_falls_3, 4)]
def m_B_falls : xM := (yX3_falls, cX3_falls, 3, (some .int), 1, 6, false, b_B_falls)
abbrev N_B_falls : Nat := 37
abbrev k_B_wins_0 : List xE := [(.iload_n 1, 1, 0, 0, .null, []), (.ifCond .lt 8, 3, 1, 0, .null, []), (.iload_n 1, 1, 0, 0, .null, []), (.iconst 1, 1, 0, 0, .int (nI 1), []), (.if_icmp .le 13, 3, 2, 0, .null, [])]
abbrev k_B_wins_1 : List xE := [(.new 60, 3, 11, 0, .null, []), (.dup, 1, 0, 0, .null, []), (.ldc 80, 2, 0, 0, .null, []), (.invokespecial 64, 3, 0, 0, .null, []), (.athrow, 1, 0, 0, .null, [])]
abbrev k_B_wins_2 : List xE := [(.aload_n 0, 1, 0, 0, .null, []), (.invokevirtual 182, 3, 63, 1, .ref 221, [1, 4, 799, 1]), (.iload_n 1, 1, 0, 0, .null, []), (.aload_n 0, 1, 0, 0, .null, []), (.getfield 9, 3, 1, 0, .ref 60, []), (.iconst 0, 1, 0, 0, .int (nI 0), []), (.iaload, 1, 0, 0, .null, []), (.invokevirtual 186, 3, 17, 3, .retAddr 8, [0]), (.ifCond .eq 7, 3, 3, 0, .null, []), (.iconst 1, 1, 0, 0, .int (nI 1), []), (.goto 4, 3, 4, 0, .null, [])]
abbrev k_B_wins_3 : List xE := [(.iconst 0, 1, 0, 0, .int (nI 0), [])]
abbrev k_B_wins_4 : List xE := [(.ireturn, 1, 0, 0, .null, [])]
def b_B_wins : List xB := [(0, k_B_wins_0, 1), (9, k_B_wins_1, 5), (19, k_B_wins_2, 5), (40, k_B_wins_3, 4), (41, k_B_wins_4, 5)]
def m_B_wins : xM := (yX3_wins, cX3_wins, 2, (some .int), 4, 799, true, b_B_wins)
abbrev N_B_wins : Nat := 38
abbrev k_B_best_0 : List xE := [(.aload_n 0, 1, 0, 0, .null, []), (.invokevirtual 182, 3, 63, 1, .ref 221, [1, 4, 799, 1]), (.astore_n 1, 1, 0, 0, .null, []), (.iconst 1, 1, 0, 0, .int (nI 1), []), (.aload_n 0, 1, 0, 0, .null, []), (.getfield 9, 3, 1, 0, .ref 60, []), (.iconst 1, 1, 0, 0, .int (nI 1), []), (.iaload, 1, 0, 0, .null, []), (.isub, 1, 0, 0, .null, []), (.istore_n 2, 1, 0, 0, .null, []), (.iconst 0, 1, 0, 0, .int (nI 0), []), (.istore_n 3, 1, 0, 0, .null, [])]
abbrev k_B_best_1 : List xE := [(.iload_n 3, 1, 0, 0, .null, []), (.iconst 5, 1, 0, 0, .int (nI 5), []), (.if_icmp .ge 62, 3, 5, 0, .null, []), (.iconst 1, 1, 0, 0, .int (nI 1), []), (.istore 4, 2, 0, 0, .null, [])]
abbrev k_B_best_2 : List xE := [(.iload 4, 2, 0, 0, .null, []), (.aload_n 0, 1, 0, 0, .null, []), (.getfield 9, 3, 1, 0, .ref 60, []), (.iconst 3, 1, 0, 0, .int (nI 3), []), (.iaload, 1, 0, 0, .null, []), (.if_icmp .gt 42, 3, 4, 0, .null, []), (.aload_n 0, 1, 0, 0, .null, []), (.iload_n 3, 1, 0, 0, .null, []), (.iload 4, 2, 0, 0, .null, []), (.invokevirtual 65, 3, 49, 3, .ref 127, [1]), (.ifCond .ne 26, 3, 3, 0, .null, []), (.aload_n 1, 1, 0, 0, .null, []), (.iload_n 2, 1, 0, 0, .null, []), (.aload_n 0, 1, 0, 0, .null, []), (.iload_n 3, 1, 0, 0, .null, []), (.iload 4, 2, 0, 0, .null, []), (.invokevirtual 189, 3, 50, 3, .ref 475, [1]), (.invokevirtual 186, 3, 17, 3, .retAddr 8, [0]), (.ifCond .ne 11, 3, 3, 0, .null, []), (.bipush 10, 2, 0, 0, .int (nI 10), []), (.iload_n 3, 1, 0, 0, .null, []), (.imul, 1, 0, 0, .null, []), (.iload 4, 2, 0, 0, .null, []), (.iadd, 1, 0, 0, .null, []), (.ireturn, 1, 0, 0, .null, [])]
abbrev k_B_best_3 : List xE := [(.iinc 4 1, 3, 0, 0, .int (nI 1), []), (.goto (-47), 3, 2, 0, .null, [])]
abbrev k_B_best_4 : List xE := [(.iinc 3 1, 3, 0, 0, .int (nI 1), []), (.goto (-61), 3, 1, 0, .null, [])]
abbrev k_B_best_5 : List xE := [(.iconst (-1), 1, 0, 0, .int (-1), []), (.ireturn, 1, 0, 0, .null, [])]
def b_B_best : List xB := [(0, k_B_best_0, 1), (16, k_B_best_1, 2), (24, k_B_best_2, 6), (68, k_B_best_3, 6), (74, k_B_best_4, 6), (80, k_B_best_5, 6)]
def m_B_best : xM := (yX3_best, cX3_best, 5, (some .int), 4, 799, true, b_B_best)
abbrev N_B_best : Nat := 39
abbrev k_B_length_0 : List xE := [(.iload_n 1, 1, 0, 0, .null, []), (.ifCond .lt 8, 3, 1, 0, .null, []), (.iload_n 1, 1, 0, 0, .null, []), (.iconst 1, 1, 0, 0, .int (nI 1), []), (.if_icmp .le 13, 3, 2, 0, .null, [])]
abbrev k_B_length_1 : List xE := [(.new 60, 3, 11, 0, .null, []), (.dup, 1, 0, 0, .null, []), (.ldc 192, 2, 0, 0, .null, []), (.invokespecial 64, 3, 0, 0, .null, []), (.athrow, 1, 0, 0, .null, [])]
abbrev k_B_length_2 : List xE := [(.iload_n 1, 1, 0, 0, .null, []), (.ifCond .ne 25, 3, 3, 0, .null, []), (.aload_n 0, 1, 0, 0, .null, []), (.invokevirtual 182, 3, 63, 1, .ref 221, [1, 4, 799, 1]), (.aload_n 0, 1, 0, 0, .null, []), (.getfield 9, 3, 1, 0, .ref 60, []), (.iconst 1, 1, 0, 0, .int (nI 1), []), (.iaload, 1, 0, 0, .null, []), (.aload_n 0, 1, 0, 0, .null, []), (.getfield 9, 3, 1, 0, .ref 60, []), (.iconst 0, 1, 0, 0, .int (nI 0), []), (.iaload, 1, 0, 0, .null, []), (.invokevirtual 194, 3, 18, 3, .retAddr 12, [0]), (.goto 22, 3, 4, 0, .null, [])]
abbrev k_B_length_3 : List xE := [(.aload_n 0, 1, 0, 0, .null, []), (.invokevirtual 182, 3, 63, 1, .ref 221, [1, 4, 799, 1]), (.aload_n 0, 1, 0, 0, .null, []), (.getfield 9, 3, 1, 0, .ref 60, []), (.iconst 1, 1, 0, 0, .int (nI 1), []), (.iaload, 1, 0, 0, .null, []), (.aload_n 0, 1, 0, 0, .null, []), (.getfield 9, 3, 1, 0, .ref 60, []), (.iconst 0, 1, 0, 0, .int (nI 0), []), (.iaload, 1, 0, 0, .null, []), (.invokevirtual 197, 3, 19, 3, .retAddr 13, [0])]
abbrev k_B_length_4 : List xE := [(.ireturn, 1, 0, 0, .null, [])]
def b_B_length : List xB := [(0, k_B_length_0, 1), (9, k_B_length_1, 5), (19, k_B_length_2, 5), (45, k_B_length_3, 4), (64, k_B_length_4, 5)]
def m_B_length : xM := (yX3_length, cX3_length, 2, (some .int), 4, 799, true, b_B_length)
abbrev N_B_length : Nat := 40
abbrev k_B_pyramids_0 : List xE := [(.iload_n 1, 1, 0, 0, .null, []), (.tableswitch 63 0 3 #[31, 37, 46, 55], 31, 5, 0, .null, [1, 2, 3, 4])]
abbrev k_B_pyramids_1 : List xE := [(.aload_n 0, 1, 0, 0, .null, []), (.getfield 40, 3, 1, 7, .ref 67, []), (.arraylength, 1, 0, 0, .null, []), (.ireturn, 1, 0, 0, .null, [])]
abbrev k_B_pyramids_2 : List xE := [(.aload_n 0, 1, 0, 0, .null, []), (.invokevirtual 182, 3, 63, 1, .ref 221, [1, 4, 799, 1]), (.iconst 0, 1, 0, 0, .int (nI 0), []), (.invokevirtual 200, 3, 20, 2, .retAddr 9, [0]), (.ireturn, 1, 0, 0, .null, [])]
abbrev k_B_pyramids_3 : List xE := [(.aload_n 0, 1, 0, 0, .null, []), (.invokevirtual 182, 3, 63, 1, .ref 221, [1, 4, 799, 1]), (.iconst 1, 1, 0, 0, .int (nI 1), []), (.invokevirtual 200, 3, 20, 2, .retAddr 9, [0]), (.ireturn, 1, 0, 0, .null, [])]
abbrev k_B_pyramids_4 : List xE := [(.aload_n 0, 1, 0, 0, .null, []), (.invokevirtual 182, 3, 63, 1, .ref 221, [1, 4, 799, 1]), (.invokevirtual 203, 3, 21, 1, .retAddr 14, [0]), (.ireturn, 1, 0, 0, .null, [])]
abbrev k_B_pyramids_5 : List xE := [(.new 60, 3, 11, 0, .null, []), (.dup, 1, 0, 0, .null, []), (.ldc 206, 2, 0, 0, .null, []), (.invokespecial 64, 3, 0, 0, .null, []), (.athrow, 1, 0, 0, .null, [])]
def b_B_pyramids : List xB := [(0, k_B_pyramids_0, 6), (32, k_B_pyramids_1, 6), (38, k_B_pyramids_2, 6), (47, k_B_pyramids_3, 6), (56, k_B_pyramids_4, 6), (64, k_B_pyramids_5, 6)]
def m_B_pyramids : xM := (yX3_pyramids, cX3_pyramids, 2, (some .int), 4, 799, true, b_B_pyramids)
abbrev N_B_pyramids : Nat := 41
abbrev k_B_brokenShare_0 : List xE := [(.aload_n 0, 1, 0, 0, .null, []), (.invokevirtual 167, 3, 60, 1, .ref 119, [1]), (.istore_n 1, 1, 0, 0, .null, []), (.iload_n 1, 1, 0, 0, .null, []), (.aload_n 0, 1, 0, 0, .null, []), (.getfield 9, 3, 1, 0, .ref 60, []), (.bipush 16, 2, 0, 0, .int (nI 16), []), (.iaload, 1, 0, 0, .null, []), (.iadd, 1, 0, 0, .null, []), (.aload_n 0, 1, 0, 0, .null, []), (.getfield 9, 3, 1, 0, .ref 60, []), (.bipush 17, 2, 0, 0, .int (nI 17), []), (.iaload, 1, 0, 0, .null, []), (.iadd, 1, 0, 0, .null, []), (.istore_n 2, 1, 0, 0, .null, []), (.iload_n 2, 1, 0, 0, .null, []), (.ifCond .ne 7, 3, 1, 0, .null, []), (.dconst 0, 1, 0, 0, .double FP.dconst0, []), (.goto 8, 3, 2, 0, .null, [])]
abbrev k_B_brokenShare_1 : List xE := [(.iload_n 1, 1, 0, 0, .null, []), (.i2d, 1, 0, 0, .null, []), (.iload_n 2, 1, 0, 0, .null, []), (.i2d, 1, 0, 0, .null, []), (.ddiv, 1, 0, 0, .null, [])]
abbrev k_B_brokenShare_2 : List xE := [(.dreturn, 1, 0, 0, .null, [])]
def b_B_brokenShare : List xB := [(0, k_B_brokenShare_0, 3), (31, k_B_brokenShare_1, 2), (36, k_B_brokenShare_2, 3)]
def m_B_brokenShare : xM := (yX3_brokenShare, cX3_brokenShare, 3, (some .double), 0, 0, false, b_B_brokenShare)
abbrev N_B_brokenShare : Nat := 42
abbrev k_B_wonShare_0 : List xE := [(.aload_n 0, 1, 0, 0, .null, []), (.getfield 40, 3, 1, 7, .ref 67, []), (.arraylength, 1, 0, 0, .null, []), (.istore_n 1, 1, 0, 0, .null, []), (.iload_n 1, 1, 0, 0, .null, []), (.ifCond .ne 7, 3, 1, 0, .null, []), (.fconst 0, 1, 0, 0, .float FP.fconst0, []), (.goto 20, 3, 2, 0, .null, [])]
abbrev k_B_wonShare_1 : List xE := [(.aload_n 0, 1, 0, 0, .null, []), (.invokevirtual 182, 3, 63, 1, .ref 221, [1, 4, 799, 1]), (.aload_n 0, 1, 0, 0, .null, []), (.getfield 9, 3, 1, 0, .ref 60, []), (.iconst 1, 1, 0, 0, .int (nI 1), []), (.iaload, 1, 0, 0, .null, []), (.invokevirtual 200, 3, 20, 2, .retAddr 9, [0]), (.i2f, 1, 0, 0, .null, []), (.iload_n 1, 1, 0, 0, .null, []), (.i2f, 1, 0, 0, .null, []), (.fdiv, 1, 0, 0, .null, [])]
abbrev k_B_wonShare_2 : List xE := [(.freturn, 1, 0, 0, .null, [])]
def b_B_wonShare : List xB := [(0, k_B_wonShare_0, 3), (14, k_B_wonShare_1, 2), (31, k_B_wonShare_2, 3)]
def m_B_wonShare : xM := (yX3_wonShare, cX3_wonShare, 2, (some .float), 4, 799, true, b_B_wonShare)
abbrev N_B_wonShare : Nat := 43
abbrev k_B_isRow_0 : List xE := [(.iload_n 0, 1, 0, 0, .null, []), (.ifCond .lt 12, 3, 1, 0, .null, []), (.iload_n 0, 1, 0, 0, .null, []), (.iconst 5, 1, 0, 0, .int (nI 5), []), (.if_icmp .ge 7, 3, 1, 0, .null, []), (.iconst 1, 1, 0, 0, .int (nI 1), []), (.goto 4, 3, 2, 0, .null, [])]
abbrev k_B_isRow_1 : List xE := [(.iconst 0, 1, 0, 0, .int (nI 0), [])]
abbrev k_B_isRow_2 : List xE := [(.ireturn, 1, 0, 0, .null, [])]
def b_B_isRow : List xB := [(0, k_B_isRow_0, 3), (13, k_B_isRow_1, 2), (14, k_B_isRow_2, 3)]
def m_B_isRow : xM := (yX3_isRow, cX3_isRow, 1, (some .boolean), 0, 0, false, b_B_isRow)
abbrev N_B_isRow : Nat := 44
abbrev k_B_isPlace_0 : List xE := [(.iload_n 0, 1, 0, 0, .null, []), (.invokestatic 49, 3, 44, 1, .ref 308, [0]), (.ifCond .eq 18, 3, 1, 0, .null, []), (.iload_n 1, 1, 0, 0, .null, []), (.ifCond .lt 14, 3, 1, 0, .null, []), (.iload_n 1, 1, 0, 0, .null, []), (.iconst 5, 1, 0, 0, .int (nI 5), []), (.iload_n 0, 1, 0, 0, .null, []), (.isub, 1, 0, 0, .null, []), (.if_icmp .ge 7, 3, 1, 0, .null, []), (.iconst 1, 1, 0, 0, .int (nI 1), []), (.goto 4, 3, 2, 0, .null, [])]
abbrev k_B_isPlace_1 : List xE := [(.iconst 0, 1, 0, 0, .int (nI 0), [])]
abbrev k_B_isPlace_2 : List xE := [(.ireturn, 1, 0, 0, .null, [])]
def b_B_isPlace : List xB := [(0, k_B_isPlace_0, 3), (22, k_B_isPlace_1, 2), (23, k_B_isPlace_2, 3)]
def m_B_isPlace : xM := (yX3_isPlace, cX3_isPlace, 2, (some .boolean), 0, 0, false, b_B_isPlace)
abbrev N_B_isPlace : Nat := 45
abbrev k_B_isSetting_0 : List xE := [(.iload_n 0, 1, 0, 0, .null, []), (.ifCond .lt 12, 3, 1, 0, .null, []), (.iload_n 0, 1, 0, 0, .null, []), (.iconst 2, 1, 0, 0, .int (nI 2), []), (.if_icmp .gt 7, 3, 1, 0, .null, []), (.iconst 1, 1, 0, 0, .int (nI 1), []), (.goto 4, 3, 2, 0, .null, [])]
abbrev k_B_isSetting_1 : List xE := [(.iconst 0, 1, 0, 0, .int (nI 0), [])]
abbrev k_B_isSetting_2 : List xE := [(.ireturn, 1, 0, 0, .null, [])]
def b_B_isSetting : List xB := [(0, k_B_isSetting_0, 3), (13, k_B_isSetting_1, 2), (14, k_B_isSetting_2, 3)]
def m_B_isSetting : xM := (yX3_isSetting, cX3_isSetting, 1, (some .boolean), 0, 0, false, b_B_isSetting)
abbrev N_B_isSetting : Nat := 46
abbrev k_B_save_0 : List xE := [(.aload_n 0, 1, 0, 0, .null, []), (.getfield 16, 3, 1, 2, .ref 62, []), (.bipush 6, 2, 0, 0, .int (nI 6), []), (.if_icmp .lt 24, 3, 1, 0, .null, []), (.aload_n 0, 1, 0, 0, .null, []), (.getfield 13, 3, 1, 1, .ref 61, []), (.bipush 18, 2, 0, 0, .int (nI 18), []), (.aload_n 0, 1, 0, 0, .null, []), (.getfield 13, 3, 1, 1, .ref 61, []), (.iconst 0, 1, 0, 0, .int (nI 0), []), (.bipush 90, 2, 0, 0, .int (nI 90), []), (.invokestatic 137, 3, 900, 0, .null, []), (.aload_n 0, 1, 0, 0, .null, []), (.iconst 5, 1, 0, 0, .int (nI 5), []), (.putfield 16, 3, 1, 2, .ref 62, [0])]
abbrev k_B_save_1 : List xE := [(.aload_n 0, 1, 0, 0, .null, []), (.getfield 9, 3, 1, 0, .ref 60, []), (.iconst 0, 1, 0, 0, .int (nI 0), []), (.aload_n 0, 1, 0, 0, .null, []), (.getfield 13, 3, 1, 1, .ref 61, []), (.aload_n 0, 1, 0, 0, .null, []), (.getfield 16, 3, 1, 2, .ref 62, []), (.bipush 18, 2, 0, 0, .int (nI 18), []), (.imul, 1, 0, 0, .null, []), (.bipush 18, 2, 0, 0, .int (nI 18), []), (.invokestatic 137, 3, 900, 0, .null, []), (.aload_n 0, 1, 0, 0, .null, []), (.dup, 1, 0, 0, .null, []), (.getfield 16, 3, 1, 2, .ref 62, []), (.iconst 1, 1, 0, 0, .int (nI 1), []), (.iadd, 1, 0, 0, .null, []), (.putfield 16, 3, 1, 2, .ref 62, [0]), (.return_, 1, 0, 0, .null, [])]
def b_B_save : List xB := [(0, k_B_save_0, 1), (30, k_B_save_1, 2)]
def m_B_save : xM := (yX3_save, cX3_save, 1, none, 0, 0, false, b_B_save)
abbrev N_B_save : Nat := 47
abbrev k_B_isBarring_0 : List xE := [(.aload_n 0, 1, 0, 0, .null, []), (.getfield 9, 3, 1, 0, .ref 60, []), (.iconst 4, 1, 0, 0, .int (nI 4), []), (.iaload, 1, 0, 0, .null, []), (.iconst 1, 1, 0, 0, .int (nI 1), []), (.if_icmp .ne 7, 3, 1, 0, .null, []), (.iconst 1, 1, 0, 0, .int (nI 1), []), (.goto 4, 3, 2, 0, .null, [])]
abbrev k_B_isBarring_1 : List xE := [(.iconst 0, 1, 0, 0, .int (nI 0), [])]
abbrev k_B_isBarring_2 : List xE := [(.ireturn, 1, 0, 0, .null, [])]
def b_B_isBarring : List xB := [(0, k_B_isBarring_0, 3), (14, k_B_isBarring_1, 2), (15, k_B_isBarring_2, 3)]
def m_B_isBarring : xM := (yX3_isBarring, cX3_isBarring, 1, (some .boolean), 0, 0, false, b_B_isBarring)
abbrev N_B_isBarring : Nat := 48
abbrev k_B_reasonAgainst_0 : List xE := [(.iload_n 2, 1, 0, 0, .null, []), (.aload_n 0, 1, 0, 0, .null, []), (.getfield 9, 3, 1, 0, .ref 60, []), (.iconst 3, 1, 0, 0, .int (nI 3), []), (.iaload, 1, 0, 0, .null, []), (.if_icmp .le 5, 3, 1, 0, .null, []), (.iconst 1, 1, 0, 0, .int (nI 1), []), (.ireturn, 1, 0, 0, .null, [])]
abbrev k_B_reasonAgainst_1 : List xE := [(.aload_n 0, 1, 0, 0, .null, []), (.getfield 9, 3, 1, 0, .ref 60, []), (.iconst 0, 1, 0, 0, .int (nI 0), []), (.iaload, 1, 0, 0, .null, []), (.aload_n 0, 1, 0, 0, .null, []), (.getfield 9, 3, 1, 0, .ref 60, []), (.iconst 1, 1, 0, 0, .int (nI 1), []), (.iaload, 1, 0, 0, .null, []), (.iload_n 1, 1, 0, 0, .null, []), (.iload_n 2, 1, 0, 0, .null, []), (.invokestatic 178, 3, 10, 4, .retAddr 5, [0]), (.istore_n 3, 1, 0, 0, .null, []), (.iload_n 3, 1, 0, 0, .null, []), (.iconst (-1), 1, 0, 0, .int (-1), []), (.if_icmp .ne 5, 3, 2, 0, .null, []), (.iconst 2, 1, 0, 0, .int (nI 2), []), (.ireturn, 1, 0, 0, .null, [])]
abbrev k_B_reasonAgainst_2 : List xE := [(.aload_n 0, 1, 0, 0, .null, []), (.invokevirtual 247, 3, 48, 1, .ref 141, [1]), (.ifCond .eq 11, 3, 3, 0, .null, []), (.iload_n 3, 1, 0, 0, .null, []), (.ifCond .le 7, 3, 3, 0, .null, []), (.iconst 3, 1, 0, 0, .int (nI 3), []), (.goto 4, 3, 4, 0, .null, [])]
abbrev k_B_reasonAgainst_3 : List xE := [(.iconst 0, 1, 0, 0, .int (nI 0), [])]
abbrev k_B_reasonAgainst_4 : List xE := [(.ireturn, 1, 0, 0, .null, [])]
def b_B_reasonAgainst : List xB := [(0, k_B_reasonAgainst_0, 5), (12, k_B_reasonAgainst_1, 5), (37, k_B_reasonAgainst_2, 5), (52, k_B_reasonAgainst_3, 4), (53, k_B_reasonAgainst_4, 5)]
def m_B_reasonAgainst : xM := (yX3_reasonAgainst, cX3_reasonAgainst, 4, (some .int), 0, 0, false, b_B_reasonAgainst)
abbrev N_B_reasonAgainst : Nat := 49
abbrev k_B_maskBehind_0 : List xE := [(.aload_n 0, 1, 0, 0, .null, []), (.getfield 9, 3, 1, 0, .ref 60, []), (.iconst 0, 1, 0, 0, .int (nI 0), []), (.iaload, 1, 0, 0, .null, []), (.aload_n 0, 1, 0, 0, .null, []), (.getfield 9, 3, 1, 0, .ref 60, []), (.iconst 1, 1, 0, 0, .int (nI 1), []), (.iaload, 1, 0, 0, .null, []), (.iload_n 1, 1, 0, 0, .null, []), (.iload_n 2, 1, 0, 0, .null, []), (.invokestatic 250, 3, 9, 4, .retAddr 6, [0]), (.invokestatic 253, 3, 7, 1, .retAddr 7, [0]), (.ireturn, 1, 0, 0, .null, [])]
def b_B_maskBehind : List xB := [(0, k_B_maskBehind_0, 1)]
def m_B_maskBehind : xM := (yX3_maskBehind, cX3_maskBehind, 3, (some .int), 0, 0, false, b_B_maskBehind)
abbrev N_B_maskBehind : Nat := 50
abbrev k_B_steal_0 : List xE := [(.aload_n 0, 1, 0, 0, .null, []), (.getfield 9, 3, 1, 0, .ref 60, []), (.iconst 1, 1, 0, 0, .int (nI 1), []), (.iaload, 1, 0, 0, .null, []), (.istore_n 3, 1, 0, 0, .null, []), (.aload_n 0, 1, 0, 0, .null, []), (.getfield 9, 3, 1, 0, .ref 60, []), (.bipush 6, 2, 0, 0, .int (nI 6), []), (.iload_n 1, 1, 0, 0, .null, []), (.iadd, 1, 0, 0, .null, []), (.dup2, 1, 0, 0, .null, []), (.iaload, 1, 0, 0, .null, []), (.iload_n 2, 1, 0, 0, .null, []), (.iadd, 1, 0, 0, .null, []), (.iastore, 1, 0, 0, .null, []), (.aload_n 0, 1, 0, 0, .null, []), (.getfield 9, 3, 1, 0, .ref 60, []), (.bipush 16, 2, 0, 0, .int (nI 16), []), (.iload_n 3, 1, 0, 0, .null, []), (.iadd, 1, 0, 0, .null, []), (.dup2, 1, 0, 0, .null, []), (.iaload, 1, 0, 0, .null, []), (.iload_n 2, 1, 0, 0, .null, []), (.iadd, 1, 0, 0, .null, []), (.iastore, 1, 0, 0, .null, []), (.aload_n 0, 1, 0, 0, .null, []), (.getfield 9, 3, 1, 0, .ref 60, []), (.iconst 2, 1, 0, 0, .int (nI 2), []), (.dup2, 1, 0, 0, .null, []), (.iaload, 1, 0, 0, .null, []), (.iconst 1, 1, 0, 0, .int (nI 1), []), (.iadd, 1, 0, 0, .null, []), (.iastore, 1, 0, 0, .null, []), (.aload_n 0, 1, 0, 0, .null, []), (.getfield 9, 3, 1, 0, .ref 60, []), (.iconst 1, 1, 0, 0, .int (nI 1), []), (.iconst 1, 1, 0, 0, .int (nI 1), []), (.iload_n 3, 1, 0, 0, .null, []), (.isub, 1, 0, 0, .null, []), (.iastore, 1, 0, 0, .null, []), (.aload_n 0, 1, 0, 0, .null, []), (.aload_n 0, 1, 0, 0, .null, []), (.getfield 9, 3, 1, 0, .ref 60, []), (.iconst 0, 1, 0, 0, .int (nI 0), []), (.iaload, 1, 0, 0, .null, []), (.iload_n 3, 1, 0, 0, .null, []), (.iload_n 1, 1, 0, 0, .null, []), (.iload_n 2, 1, 0, 0, .null, []), (.invokestatic 250, 3, 9, 4, .retAddr 6, [0]), (.invokevirtual 256, 3, 53, 2, .ref 349, [1]), (.ireturn, 1, 0, 0, .null, [])]
def b_B_steal : List xB := [(0, k_B_steal_0, 1)]
def m_B_steal : xM := (yX3_steal, cX3_steal, 4, (some .int), 0, 0, false, b_B_steal)
abbrev N_B_steal : Nat := 51
abbrev k_B_knockOut_0 : List xE := [(.aload_n 0, 1, 0, 0, .null, []), (.getfield 9, 3, 1, 0, .ref 60, []), (.bipush 11, 2, 0, 0, .int (nI 11), []), (.iload_n 1, 1, 0, 0, .null, []), (.iadd, 1, 0, 0, .null, []), (.dup2, 1, 0, 0, .null, []), (.iaload, 1, 0, 0, .null, []), (.iconst 1, 1, 0, 0, .int (nI 1), []), (.iadd, 1, 0, 0, .null, []), (.iastore, 1, 0, 0, .null, []), (.aload_n 0, 1, 0, 0, .null, []), (.aload_n 0, 1, 0, 0, .null, []), (.getfield 9, 3, 1, 0, .ref 60, []), (.iconst 0, 1, 0, 0, .int (nI 0), []), (.iaload, 1, 0, 0, .null, []), (.iload_n 1, 1, 0, 0, .null, []), (.iload_n 2, 1, 0, 0, .null, []), (.invokestatic 259, 3, 3, 2, .retAddr 15, [0]), (.iconst (-1), 1, 0, 0, .int (-1), []), (.ixor, 1, 0, 0, .null, []), (.iand, 1, 0, 0, .null, []), (.invokevirtual 256, 3, 53, 2, .ref 349, [1]), (.ireturn, 1, 0, 0, .null, [])]
def b_B_knockOut : List xB := [(0, k_B_knockOut_0, 1)]
def m_B_knockOut : xM := (yX3_knockOut, cX3_knockOut, 3, (some .int), 0, 0, false, b_B_knockOut)
abbrev N_B_knockOut : Nat := 52
abbrev k_B_letFall_0 : List xE := [(.iload_n 1, 1, 0, 0, .null, []), (.invokestatic 253, 3, 7, 1, .retAddr 7, [0]), (.istore_n 2, 1, 0, 0, .null, []), (.iload_n 1, 1, 0, 0, .null, []), (.iload_n 2, 1, 0, 0, .null, []), (.iconst (-1), 1, 0, 0, .int (-1), []), (.ixor, 1, 0, 0, .null, []), (.iand, 1, 0, 0, .null, []), (.istore_n 3, 1, 0, 0, .null, []), (.iconst 0, 1, 0, 0, .int (nI 0), []), (.istore 4, 2, 0, 0, .null, [])]
abbrev k_B_letFall_1 : List xE := [(.iload 4, 2, 0, 0, .null, []), (.iconst 5, 1, 0, 0, .int (nI 5), []), (.if_icmp .ge 31, 3, 2, 0, .null, []), (.aload_n 0, 1, 0, 0, .null, []), (.getfield 9, 3, 1, 0, .ref 60, []), (.bipush 11, 2, 0, 0, .int (nI 11), []), (.iload 4, 2, 0, 0, .null, []), (.iadd, 1, 0, 0, .null, []), (.dup2, 1, 0, 0, .null, []), (.iaload, 1, 0, 0, .null, []), (.iload_n 3, 1, 0, 0, .null, []), (.iload 4, 2, 0, 0, .null, []), (.invokestatic 147, 3, 4, 2, .retAddr 10, [0]), (.invokestatic 150, 3, 0, 1, .ref 105, [0]), (.iadd, 1, 0, 0, .null, []), (.iastore, 1, 0, 0, .null, []), (.iinc 4 1, 3, 0, 0, .int (nI 1), []), (.goto (-31), 3, 1, 0, .null, [])]
abbrev k_B_letFall_2 : List xE := [(.aload_n 0, 1, 0, 0, .null, []), (.getfield 9, 3, 1, 0, .ref 60, []), (.iconst 0, 1, 0, 0, .int (nI 0), []), (.iload_n 2, 1, 0, 0, .null, []), (.iastore, 1, 0, 0, .null, []), (.iload_n 3, 1, 0, 0, .null, []), (.invokestatic 150, 3, 0, 1, .ref 105, [0]), (.ireturn, 1, 0, 0, .null, [])]
def b_B_letFall : List xB := [(0, k_B_letFall_0, 1), (14, k_B_letFall_1, 3), (48, k_B_letFall_2, 3)]
def m_B_letFall : xM := (yX3_letFall, cX3_letFall, 5, (some .int), 0, 0, false, b_B_letFall)
abbrev N_B_letFall : Nat := 53
abbrev k_B_addBottle_0 : List xE := [(.aload_n 0, 1, 0, 0, .null, []), (.getfield 9, 3, 1, 0, .ref 60, []), (.iconst 0, 1, 0, 0, .int (nI 0), []), (.dup2, 1, 0, 0, .null, []), (.iaload, 1, 0, 0, .null, []), (.iload_n 1, 1, 0, 0, .null, []), (.iload_n 2, 1, 0, 0, .null, []), (.invokestatic 259, 3, 3, 2, .retAddr 15, [0]), (.ior, 1, 0, 0, .null, []), (.iastore, 1, 0, 0, .null, []), (.aload_n 0, 1, 0, 0, .null, []), (.getfield 9, 3, 1, 0, .ref 60, []), (.iconst 0, 1, 0, 0, .int (nI 0), []), (.iaload, 1, 0, 0, .null, []), (.invokestatic 150, 3, 0, 1, .ref 105, [0]), (.ireturn, 1, 0, 0, .null, [])]
def b_B_addBottle : List xB := [(0, k_B_addBottle_0, 1)]
def m_B_addBottle : xM := (yX3_addBottle, cX3_addBottle, 3, (some .int), 0, 0, false, b_B_addBottle)
abbrev N_B_addBottle : Nat := 54
abbrev k_B_swapSides_0 : List xE := [(.aload_n 0, 1, 0, 0, .null, []), (.getfield 9, 3, 1, 0, .ref 60, []), (.iconst 0, 1, 0, 0, .int (nI 0), []), (.aload_n 0, 1, 0, 0, .null, []), (.getfield 9, 3, 1, 0, .ref 60, []), (.iconst 0, 1, 0, 0, .int (nI 0), []), (.iaload, 1, 0, 0, .null, []), (.invokestatic 262, 3, 8, 1, .retAddr 1, [0]), (.iastore, 1, 0, 0, .null, []), (.aload_n 0, 1, 0, 0, .null, []), (.getfield 9, 3, 1, 0, .ref 60, []), (.iconst 1, 1, 0, 0, .int (nI 1), []), (.iconst 1, 1, 0, 0, .int (nI 1), []), (.aload_n 0, 1, 0, 0, .null, []), (.getfield 9, 3, 1, 0, .ref 60, []), (.iconst 1, 1, 0, 0, .int (nI 1), []), (.iaload, 1, 0, 0, .null, []), (.isub, 1, 0, 0, .null, []), (.iastore, 1, 0, 0, .null, []), (.aload_n 0, 1, 0, 0, .null, []), (.getfield 9, 3, 1, 0, .ref 60, []), (.iconst 0, 1, 0, 0, .int (nI 0), []), (.iaload, 1, 0, 0, .null, []), (.ireturn, 1, 0, 0, .null, [])]
def b_B_swapSides : List xB := [(0, k_B_swapSides_0, 1)]
def m_B_swapSides : xM := (yX3_swapSides, cX3_swapSides, 1, (some .int), 0, 0, false, b_B_swapSides)
abbrev N_B_swapSides : Nat := 55
abbrev k_B_fillUp_0 : List xE := [(.sipush 32767, 3, 0, 0, .int (nI 32767), []), (.invokestatic 150, 3, 0, 1, .ref 105, [0]), (.aload_n 0, 1, 0, 0, .null, []), (.getfield 9, 3, 1, 0, .ref 60, []), (.iconst 0, 1, 0, 0, .int (nI 0), []), (.iaload, 1, 0, 0, .null, []), (.invokestatic 150, 3, 0, 1, .ref 105, [0]), (.isub, 1, 0, 0, .null, []), (.istore_n 1, 1, 0, 0, .null, []), (.aload_n 0, 1, 0, 0, .null, []), (.getfield 9, 3, 1, 0, .ref 60, []), (.iconst 0, 1, 0, 0, .int (nI 0), []), (.sipush 32767, 3, 0, 0, .int (nI 32767), []), (.iastore, 1, 0, 0, .null, []), (.aload_n 0, 1, 0, 0, .null, []), (.getfield 9, 3, 1, 0, .ref 60, []), (.iconst 1, 1, 0, 0, .int (nI 1), []), (.iconst 0, 1, 0, 0, .int (nI 0), []), (.iastore, 1, 0, 0, .null, []), (.iload_n 1, 1, 0, 0, .null, []), (.ireturn, 1, 0, 0, .null, [])]
def b_B_fillUp : List xB := [(0, k_B_fillUp_0, 1)]
def m_B_fillUp : xM := (yX3_fillUp, cX3_fillUp, 2, (some .int), 0, 0, false, b_B_fillUp)
abbrev N_B_fillUp : Nat := 56
abbrev k_B_lowestPlace_0 : List xE := [(.iconst 0, 1, 0, 0, .int (nI 0), []), (.istore_n 2, 1, 0, 0, .null, [])]
abbrev k_B_lowestPlace_1 : List xE := [(.iload_n 2, 1, 0, 0, .null, []), (.iconst 5, 1, 0, 0, .int (nI 5), []), (.iload_n 1, 1, 0, 0, .null, []), (.isub, 1, 0, 0, .null, []), (.if_icmp .ge 25, 3, 3, 0, .null, []), (.aload_n 0, 1, 0, 0, .null, []), (.getfield 9, 3, 1, 0, .ref 60, []), (.iconst 0, 1, 0, 0, .int (nI 0), []), (.iaload, 1, 0, 0, .null, []), (.iload_n 1, 1, 0, 0, .null, []), (.iload_n 2, 1, 0, 0, .null, []), (.invokestatic 88, 3, 5, 3, .retAddr 11, [0]), (.ifCond .eq 5, 3, 2, 0, .null, []), (.iload_n 2, 1, 0, 0, .null, []), (.ireturn, 1, 0, 0, .null, [])]
abbrev k_B_lowestPlace_2 : List xE := [(.iinc 2 1, 3, 0, 0, .int (nI 1), []), (.goto (-26), 3, 1, 0, .null, [])]
abbrev k_B_lowestPlace_3 : List xE := [(.iconst (-1), 1, 0, 0, .int (-1), []), (.ireturn, 1, 0, 0, .null, [])]
def b_B_lowestPlace : List xB := [(0, k_B_lowestPlace_0, 1), (2, k_B_lowestPlace_1, 4), (25, k_B_lowestPlace_2, 4), (31, k_B_lowestPlace_3, 4)]
def m_B_lowestPlace : xM := (yX3_lowestPlace, cX3_lowestPlace, 3, (some .int), 0, 0, false, b_B_lowestPlace)
abbrev N_B_lowestPlace : Nat := 57
abbrev k_B_highestPlace_0 : List xE := [(.iconst 5, 1, 0, 0, .int (nI 5), []), (.iload_n 1, 1, 0, 0, .null, []), (.isub, 1, 0, 0, .null, []), (.iconst 1, 1, 0, 0, .int (nI 1), []), (.isub, 1, 0, 0, .null, []), (.istore_n 2, 1, 0, 0, .null, [])]
abbrev k_B_highestPlace_1 : List xE := [(.iload_n 2, 1, 0, 0, .null, []), (.ifCond .lt 25, 3, 3, 0, .null, []), (.aload_n 0, 1, 0, 0, .null, []), (.getfield 9, 3, 1, 0, .ref 60, []), (.iconst 0, 1, 0, 0, .int (nI 0), []), (.iaload, 1, 0, 0, .null, []), (.iload_n 1, 1, 0, 0, .null, []), (.iload_n 2, 1, 0, 0, .null, []), (.invokestatic 88, 3, 5, 3, .retAddr 11, [0]), (.ifCond .eq 5, 3, 2, 0, .null, []), (.iload_n 2, 1, 0, 0, .null, []), (.ireturn, 1, 0, 0, .null, [])]
abbrev k_B_highestPlace_2 : List xE := [(.iinc 2 (-1), 3, 0, 0, .int (-1), []), (.goto (-23), 3, 1, 0, .null, [])]
abbrev k_B_highestPlace_3 : List xE := [(.iconst (-1), 1, 0, 0, .int (-1), []), (.ireturn, 1, 0, 0, .null, [])]
def b_B_highestPlace : List xB := [(0, k_B_highestPlace_0, 1), (6, k_B_highestPlace_1, 4), (26, k_B_highestPlace_2, 4), (32, k_B_highestPlace_3, 4)]
def m_B_highestPlace : xM := (yX3_highestPlace, cX3_highestPlace, 3, (some .int), 0, 0, false, b_B_highestPlace)
abbrev N_B_highestPlace : Nat := 58
abbrev k_B_greatestTheft_0 : List xE := [(.aload_n 0, 1, 0, 0, .null, []), (.getfield 9, 3, 1, 0, .ref 60, []), (.iconst 3, 1, 0, 0, .int (nI 3), []), (.iaload, 1, 0, 0, .null, []), (.istore_n 2, 1, 0, 0, .null, [])]
abbrev k_B_greatestTheft_1 : List xE := [(.iload_n 2, 1, 0, 0, .null, []), (.iconst 1, 1, 0, 0, .int (nI 1), []), (.if_icmp .lt 20, 3, 3, 0, .null, []), (.aload_n 0, 1, 0, 0, .null, []), (.iload_n 1, 1, 0, 0, .null, []), (.iload_n 2, 1, 0, 0, .null, []), (.invokevirtual 65, 3, 49, 3, .ref 127, [1]), (.ifCond .ne 5, 3, 2, 0, .null, []), (.iload_n 2, 1, 0, 0, .null, []), (.ireturn, 1, 0, 0, .null, [])]
abbrev k_B_greatestTheft_2 : List xE := [(.iinc 2 (-1), 3, 0, 0, .int (-1), []), (.goto (-19), 3, 1, 0, .null, [])]
abbrev k_B_greatestTheft_3 : List xE := [(.iconst 0, 1, 0, 0, .int (nI 0), []), (.ireturn, 1, 0, 0, .null, [])]
def b_B_greatestTheft : List xB := [(0, k_B_greatestTheft_0, 1), (7, k_B_greatestTheft_1, 4), (23, k_B_greatestTheft_2, 4), (29, k_B_greatestTheft_3, 4)]
def m_B_greatestTheft : xM := (yX3_greatestTheft, cX3_greatestTheft, 3, (some .int), 0, 0, false, b_B_greatestTheft)
abbrev N_B_greatestTheft : Nat := 59
abbrev k_B_brokenInAll_0 : List xE := [(.iconst 0, 1, 0, 0, .int (nI 0), []), (.istore_n 1, 1, 0, 0, .null, []), (.iconst 0, 1, 0, 0, .int (nI 0), []), (.istore_n 2, 1, 0, 0, .null, [])]
abbrev k_B_brokenInAll_1 : List xE := [(.iload_n 2, 1, 0, 0, .null, []), (.iconst 5, 1, 0, 0, .int (nI 5), []), (.if_icmp .ge 21, 3, 2, 0, .null, []), (.iload_n 1, 1, 0, 0, .null, []), (.aload_n 0, 1, 0, 0, .null, []), (.getfield 9, 3, 1, 0, .ref 60, []), (.bipush 11, 2, 0, 0, .int (nI 11), []), (.iload_n 2, 1, 0, 0, .null, []), (.iadd, 1, 0, 0, .null, []), (.iaload, 1, 0, 0, .null, []), (.iadd, 1, 0, 0, .null, []), (.istore_n 1, 1, 0, 0, .null, []), (.iinc 2 1, 3, 0, 0, .int (nI 1), []), (.goto (-20), 3, 1, 0, .null, [])]
abbrev k_B_brokenInAll_2 : List xE := [(.iload_n 1, 1, 0, 0, .null, []), (.ireturn, 1, 0, 0, .null, [])]
def b_B_brokenInAll : List xB := [(0, k_B_brokenInAll_0, 1), (4, k_B_brokenInAll_1, 3), (27, k_B_brokenInAll_2, 3)]
def m_B_brokenInAll : xM := (yX3_brokenInAll, cX3_brokenInAll, 3, (some .int), 0, 0, false, b_B_brokenInAll)
abbrev N_B_brokenInAll : Nat := 60
abbrev k_B_possibleThefts_0 : List xE := [(.iconst 0, 1, 0, 0, .int (nI 0), []), (.istore_n 1, 1, 0, 0, .null, []), (.iconst 0, 1, 0, 0, .int (nI 0), []), (.istore_n 2, 1, 0, 0, .null, [])]
abbrev k_B_possibleThefts_1 : List xE := [(.iload_n 2, 1, 0, 0, .null, []), (.iconst 5, 1, 0, 0, .int (nI 5), []), (.if_icmp .ge 39, 3, 5, 0, .null, []), (.iconst 1, 1, 0, 0, .int (nI 1), []), (.istore_n 3, 1, 0, 0, .null, [])]
abbrev k_B_possibleThefts_2 : List xE := [(.iload_n 3, 1, 0, 0, .null, []), (.aload_n 0, 1, 0, 0, .null, []), (.getfield 9, 3, 1, 0, .ref 60, []), (.iconst 3, 1, 0, 0, .int (nI 3), []), (.iaload, 1, 0, 0, .null, []), (.if_icmp .gt 21, 3, 4, 0, .null, []), (.aload_n 0, 1, 0, 0, .null, []), (.iload_n 2, 1, 0, 0, .null, []), (.iload_n 3, 1, 0, 0, .null, []), (.invokevirtual 65, 3, 49, 3, .ref 127, [1]), (.ifCond .ne 6, 3, 3, 0, .null, []), (.iinc 1 1, 3, 0, 0, .int (nI 1), [])]
abbrev k_B_possibleThefts_3 : List xE := [(.iinc 3 1, 3, 0, 0, .int (nI 1), []), (.goto (-25), 3, 2, 0, .null, [])]
abbrev k_B_possibleThefts_4 : List xE := [(.iinc 2 1, 3, 0, 0, .int (nI 1), []), (.goto (-38), 3, 1, 0, .null, [])]
abbrev k_B_possibleThefts_5 : List xE := [(.iload_n 1, 1, 0, 0, .null, []), (.ireturn, 1, 0, 0, .null, [])]
def b_B_possibleThefts : List xB := [(0, k_B_possibleThefts_0, 1), (4, k_B_possibleThefts_1, 2), (11, k_B_possibleThefts_2, 3), (33, k_B_possibleThefts_3, 6), (39, k_B_possibleThefts_4, 6), (45, k_B_possibleThefts_5, 6)]
def m_B_possibleThefts : xM := (yX3_possibleThefts, cX3_possibleThefts, 4, (some .int), 0, 0, false, b_B_possibleThefts)
abbrev N_B_possibleThefts : Nat := 61
abbrev k_B_winner_0 : List xE := [(.aload_n 0, 1, 0, 0, .null, []), (.invokevirtual 170, 3, 61, 1, .ref 123, [1]), (.ifCond .le 5, 3, 1, 0, .null, []), (.iconst (-1), 1, 0, 0, .int (-1), []), (.ireturn, 1, 0, 0, .null, [])]
abbrev k_B_winner_1 : List xE := [(.aload_n 0, 1, 0, 0, .null, []), (.getfield 9, 3, 1, 0, .ref 60, []), (.iconst 5, 1, 0, 0, .int (nI 5), []), (.iaload, 1, 0, 0, .null, []), (.iconst 1, 1, 0, 0, .int (nI 1), []), (.if_icmp .ne 12, 3, 2, 0, .null, []), (.aload_n 0, 1, 0, 0, .null, []), (.getfield 9, 3, 1, 0, .ref 60, []), (.iconst 1, 1, 0, 0, .int (nI 1), []), (.iaload, 1, 0, 0, .null, []), (.goto 11, 3, 3, 0, .null, [])]
abbrev k_B_winner_2 : List xE := [(.iconst 1, 1, 0, 0, .int (nI 1), []), (.aload_n 0, 1, 0, 0, .null, []), (.getfield 9, 3, 1, 0, .ref 60, []), (.iconst 1, 1, 0, 0, .int (nI 1), []), (.iaload, 1, 0, 0, .null, []), (.isub, 1, 0, 0, .null, [])]
abbrev k_B_winner_3 : List xE := [(.ireturn, 1, 0, 0, .null, [])]
def b_B_winner : List xB := [(0, k_B_winner_0, 4), (9, k_B_winner_1, 4), (28, k_B_winner_2, 3), (36, k_B_winner_3, 4)]
def m_B_winner : xM := (yX3_winner, cX3_winner, 1, (some .int), 0, 0, false, b_B_winner)
abbrev N_B_winner : Nat := 62
abbrev k_B_play_0 : List xE := [(.iconst 4, 1, 0, 0, .int (nI 4), []), (.aload_n 0, 1, 0, 0, .null, []), (.getfield 9, 3, 1, 0, .ref 60, []), (.iconst 3, 1, 0, 0, .int (nI 3), []), (.iaload, 1, 0, 0, .null, []), (.iconst 1, 1, 0, 0, .int (nI 1), []), (.isub, 1, 0, 0, .null, []), (.imul, 1, 0, 0, .null, []), (.iconst 2, 1, 0, 0, .int (nI 2), []), (.aload_n 0, 1, 0, 0, .null, []), (.getfield 9, 3, 1, 0, .ref 60, []), (.iconst 4, 1, 0, 0, .int (nI 4), []), (.iaload, 1, 0, 0, .null, []), (.imul, 1, 0, 0, .null, []), (.iadd, 1, 0, 0, .null, []), (.aload_n 0, 1, 0, 0, .null, []), (.getfield 9, 3, 1, 0, .ref 60, []), (.iconst 5, 1, 0, 0, .int (nI 5), []), (.iaload, 1, 0, 0, .null, []), (.iadd, 1, 0, 0, .null, []), (.istore_n 1, 1, 0, 0, .null, []), (.aload_n 0, 1, 0, 0, .null, []), (.getfield 45, 3, 1, 8, .ref 68, []), (.iload_n 1, 1, 0, 0, .null, []), (.aaload, 1, 0, 0, .null, []), (.astore_n 2, 1, 0, 0, .null, []), (.aload_n 2, 1, 0, 0, .null, []), (.ifnonnull 47, 3, 3, 0, .null, []), (.new 43, 3, 0, 0, .null, []), (.dup, 1, 0, 0, .null, []), (.aload_n 0, 1, 0, 0, .null, []), (.getfield 40, 3, 1, 7, .ref 67, []), (.aload_n 0, 1, 0, 0, .null, []), (.getfield 9, 3, 1, 0, .ref 60, []), (.iconst 3, 1, 0, 0, .int (nI 3), []), (.iaload, 1, 0, 0, .null, []), (.aload_n 0, 1, 0, 0, .null, []), (.invokevirtual 247, 3, 48, 1, .ref 141, [1]), (.aload_n 0, 1, 0, 0, .null, []), (.getfield 9, 3, 1, 0, .ref 60, []), (.iconst 5, 1, 0, 0, .int (nI 5), []), (.iaload, 1, 0, 0, .null, []), (.iconst 1, 1, 0, 0, .int (nI 1), []), (.if_icmp .ne 7, 3, 1, 0, .null, []), (.iconst 1, 1, 0, 0, .int (nI 1), []), (.goto 4, 3, 2, 0, .null, [])]
abbrev k_B_play_1 : List xE := [(.iconst 0, 1, 0, 0, .int (nI 0), [])]
abbrev k_B_play_2 : List xE := [(.invokespecial 268, 3, 13, 5, .retAddr 2, [0, 3, 792, 1]), (.astore_n 2, 1, 0, 0, .null, []), (.aload_n 0, 1, 0, 0, .null, []), (.getfield 45, 3, 1, 8, .ref 68, []), (.iload_n 1, 1, 0, 0, .null, []), (.aload_n 2, 1, 0, 0, .null, []), (.aastore, 1, 0, 0, .null, [])]
abbrev k_B_play_3 : List xE := [(.aload_n 2, 1, 0, 0, .null, []), (.areturn, 1, 0, 0, .null, [])]
def b_B_play : List xB := [(0, k_B_play_0, 4), (70, k_B_play_1, 2), (71, k_B_play_2, 3), (82, k_B_play_3, 4)]
def m_B_play : xM := (yX3_play, cX3_play, 3, (some (.object "BottlePyramid$Play")), 4, 799, true, b_B_play)
abbrev N_B_play : Nat := 63
abbrev k_W_bits_0 : List xE := [(.iconst 0, 1, 0, 0, .int (nI 0), []), (.istore_n 1, 1, 0, 0, .null, []), (.iconst 0, 1, 0, 0, .int (nI 0), []), (.istore_n 2, 1, 0, 0, .null, [])]
abbrev k_W_bits_1 : List xE := [(.iload_n 2, 1, 0, 0, .null, []), (.bipush 15, 2, 0, 0, .int (nI 15), []), (.if_icmp .ge 17, 3, 2, 0, .null, []), (.iload_n 1, 1, 0, 0, .null, []), (.iload_n 0, 1, 0, 0, .null, []), (.iload_n 2, 1, 0, 0, .null, []), (.ishr, 1, 0, 0, .null, []), (.iconst 1, 1, 0, 0, .int (nI 1), []), (.iand, 1, 0, 0, .null, []), (.iadd, 1, 0, 0, .null, []), (.istore_n 1, 1, 0, 0, .null, []), (.iinc 2 1, 3, 0, 0, .int (nI 1), []), (.goto (-17), 3, 1, 0, .null, [])]
abbrev k_W_bits_2 : List xE := [(.iload_n 1, 1, 0, 0, .null, []), (.ireturn, 1, 0, 0, .null, [])]
def b_W_bits : List xB := [(0, k_W_bits_0, 1), (4, k_W_bits_1, 3), (24, k_W_bits_2, 3)]
def m_W_bits : xM := (yL_bits, cL_bits, 3, (some .int), 0, 0, false, b_W_bits)
abbrev N_W_bits : Nat := 64
abbrev k_W_first_0 : List xE := [(.iload_n 0, 1, 0, 0, .null, []), (.ifCond .ne 7, 3, 1, 0, .null, []), (.iconst 0, 1, 0, 0, .int (nI 0), []), (.goto 34, 3, 5, 0, .null, [])]
abbrev k_W_first_1 : List xE := [(.iload_n 0, 1, 0, 0, .null, []), (.iconst 1, 1, 0, 0, .int (nI 1), []), (.if_icmp .ne 7, 3, 2, 0, .null, []), (.iconst 5, 1, 0, 0, .int (nI 5), []), (.goto 25, 3, 5, 0, .null, [])]
abbrev k_W_first_2 : List xE := [(.iload_n 0, 1, 0, 0, .null, []), (.iconst 2, 1, 0, 0, .int (nI 2), []), (.if_icmp .ne 8, 3, 3, 0, .null, []), (.bipush 9, 2, 0, 0, .int (nI 9), []), (.goto 15, 3, 5, 0, .null, [])]
abbrev k_W_first_3 : List xE := [(.iload_n 0, 1, 0, 0, .null, []), (.iconst 3, 1, 0, 0, .int (nI 3), []), (.if_icmp .ne 8, 3, 4, 0, .null, []), (.bipush 12, 2, 0, 0, .int (nI 12), []), (.goto 5, 3, 5, 0, .null, [])]
abbrev k_W_first_4 : List xE := [(.bipush 14, 2, 0, 0, .int (nI 14), [])]
abbrev k_W_first_5 : List xE := [(.ireturn, 1, 0, 0, .null, [])]
def b_W_first : List xB := [(0, k_W_first_0, 6), (8, k_W_first_1, 6), (17, k_W_first_2, 6), (27, k_W_first_3, 6), (37, k_W_first_4, 5), (39, k_W_first_5, 6)]
def m_W_first : xM := (yL_first, cL_first, 1, (some .int), 0, 0, false, b_W_first)
abbrev N_W_first : Nat := 65
abbrev k_W_isPyramid_0 : List xE := [(.aload_n 0, 1, 0, 0, .null, []), (.iconst 0, 1, 0, 0, .int (nI 0), []), (.invokevirtual 60, 3, 34, 2, .ref 115, [1, 1, 6]), (.istore_n 1, 1, 0, 0, .null, []), (.iconst 0, 1, 0, 0, .int (nI 0), []), (.istore_n 2, 1, 0, 0, .null, []), (.iconst 0, 1, 0, 0, .int (nI 0), []), (.istore_n 3, 1, 0, 0, .null, []), (.iload_n 1, 1, 0, 0, .null, []), (.invokestatic 63, 3, 64, 1, .ref 433, [0]), (.aload_n 0, 1, 0, 0, .null, []), (.iconst 1, 1, 0, 0, .int (nI 1), []), (.invokevirtual 60, 3, 34, 2, .ref 115, [1, 1, 6]), (.if_icmp .ne 7, 3, 1, 0, .null, []), (.iconst 1, 1, 0, 0, .int (nI 1), []), (.goto 4, 3, 2, 0, .null, [])]
abbrev k_W_isPyramid_1 : List xE := [(.iconst 0, 1, 0, 0, .int (nI 0), [])]
abbrev k_W_isPyramid_2 : List xE := [(.istore 4, 2, 0, 0, .null, []), (.iconst 0, 1, 0, 0, .int (nI 0), []), (.istore 5, 2, 0, 0, .null, [])]
abbrev k_W_isPyramid_3 : List xE := [(.iload 5, 2, 0, 0, .null, []), (.iconst 5, 1, 0, 0, .int (nI 5), []), (.if_icmp .ge 220, 3, 19, 0, .null, []), (.iload 4, 2, 0, 0, .null, []), (.ifCond .eq 215, 3, 19, 0, .null, []), (.iconst 0, 1, 0, 0, .int (nI 0), []), (.istore 6, 2, 0, 0, .null, []), (.iconst (-1), 1, 0, 0, .int (-1), []), (.istore 7, 2, 0, 0, .null, []), (.iconst (-1), 1, 0, 0, .int (-1), []), (.istore 8, 2, 0, 0, .null, []), (.iconst 0, 1, 0, 0, .int (nI 0), []), (.istore 9, 2, 0, 0, .null, [])]
abbrev k_W_isPyramid_4 : List xE := [(.iload 9, 2, 0, 0, .null, []), (.iconst 5, 1, 0, 0, .int (nI 5), []), (.iload 5, 2, 0, 0, .null, []), (.isub, 1, 0, 0, .null, []), (.if_icmp .ge 120, 3, 16, 0, .null, []), (.iload 4, 2, 0, 0, .null, []), (.ifCond .eq 115, 3, 16, 0, .null, []), (.iload_n 1, 1, 0, 0, .null, []), (.iload 5, 2, 0, 0, .null, []), (.invokestatic 66, 3, 65, 1, .ref 436, [0]), (.iload 9, 2, 0, 0, .null, []), (.iadd, 1, 0, 0, .null, []), (.ishr, 1, 0, 0, .null, []), (.iconst 1, 1, 0, 0, .int (nI 1), []), (.iand, 1, 0, 0, .null, []), (.iconst 1, 1, 0, 0, .int (nI 1), []), (.if_icmp .ne 7, 3, 5, 0, .null, []), (.iconst 1, 1, 0, 0, .int (nI 1), []), (.goto 4, 3, 6, 0, .null, [])]
abbrev k_W_isPyramid_5 : List xE := [(.iconst 0, 1, 0, 0, .int (nI 0), [])]
abbrev k_W_isPyramid_6 : List xE := [(.istore 10, 2, 0, 0, .null, []), (.iload 6, 2, 0, 0, .null, []), (.iload 10, 2, 0, 0, .null, []), (.ifCond .eq 7, 3, 7, 0, .null, []), (.iconst 1, 1, 0, 0, .int (nI 1), []), (.goto 4, 3, 8, 0, .null, [])]
abbrev k_W_isPyramid_7 : List xE := [(.iconst 0, 1, 0, 0, .int (nI 0), [])]
abbrev k_W_isPyramid_8 : List xE := [(.iadd, 1, 0, 0, .null, []), (.istore 6, 2, 0, 0, .null, []), (.iload 10, 2, 0, 0, .null, []), (.ifCond .eq 13, 3, 9, 0, .null, []), (.iload 7, 2, 0, 0, .null, []), (.ifCond .ge 8, 3, 9, 0, .null, []), (.iload 9, 2, 0, 0, .null, []), (.goto 5, 3, 10, 0, .null, [])]
abbrev k_W_isPyramid_9 : List xE := [(.iload 7, 2, 0, 0, .null, [])]
abbrev k_W_isPyramid_10 : List xE := [(.istore 7, 2, 0, 0, .null, []), (.iload 10, 2, 0, 0, .null, []), (.ifCond .eq 8, 3, 11, 0, .null, []), (.iload 9, 2, 0, 0, .null, []), (.goto 5, 3, 12, 0, .null, [])]
abbrev k_W_isPyramid_11 : List xE := [(.iload 8, 2, 0, 0, .null, [])]
abbrev k_W_isPyramid_12 : List xE := [(.istore 8, 2, 0, 0, .null, []), (.iload 10, 2, 0, 0, .null, []), (.ifCond .eq 26, 3, 13, 0, .null, []), (.iload 5, 2, 0, 0, .null, []), (.ifCond .eq 21, 3, 13, 0, .null, []), (.iload_n 1, 1, 0, 0, .null, []), (.iload 5, 2, 0, 0, .null, []), (.iconst 1, 1, 0, 0, .int (nI 1), []), (.isub, 1, 0, 0, .null, []), (.invokestatic 66, 3, 65, 1, .ref 436, [0]), (.iload 9, 2, 0, 0, .null, []), (.iadd, 1, 0, 0, .null, []), (.ishr, 1, 0, 0, .null, []), (.iconst 3, 1, 0, 0, .int (nI 3), []), (.iand, 1, 0, 0, .null, []), (.iconst 3, 1, 0, 0, .int (nI 3), []), (.if_icmp .ne 7, 3, 14, 0, .null, [])]
abbrev k_W_isPyramid_13 : List xE := [(.iconst 1, 1, 0, 0, .int (nI 1), []), (.goto 4, 3, 15, 0, .null, [])]
abbrev k_W_isPyramid_14 : List xE := [(.iconst 0, 1, 0, 0, .int (nI 0), [])]
abbrev k_W_isPyramid_15 : List xE := [(.istore 4, 2, 0, 0, .null, []), (.iinc 9 1, 3, 0, 0, .int (nI 1), []), (.goto (-123), 3, 4, 0, .null, [])]
abbrev k_W_isPyramid_16 : List xE := [(.iload_n 2, 1, 0, 0, .null, []), (.aload_n 0, 1, 0, 0, .null, []), (.iload 5, 2, 0, 0, .null, []), (.iconst 4, 1, 0, 0, .int (nI 4), []), (.invokevirtual 69, 3, 33, 3, .ref 439, [1, 1, 6]), (.iadd, 1, 0, 0, .null, []), (.istore_n 2, 1, 0, 0, .null, []), (.iload_n 3, 1, 0, 0, .null, []), (.aload_n 0, 1, 0, 0, .null, []), (.iload 5, 2, 0, 0, .null, []), (.iconst 5, 1, 0, 0, .int (nI 5), []), (.invokevirtual 69, 3, 33, 3, .ref 439, [1, 1, 6]), (.iadd, 1, 0, 0, .null, []), (.istore_n 3, 1, 0, 0, .null, []), (.iload 4, 2, 0, 0, .null, []), (.ifCond .eq 43, 3, 17, 0, .null, []), (.aload_n 0, 1, 0, 0, .null, []), (.iload 5, 2, 0, 0, .null, []), (.iconst 0, 1, 0, 0, .int (nI 0), []), (.invokevirtual 69, 3, 33, 3, .ref 439, [1, 1, 6]), (.iload 6, 2, 0, 0, .null, []), (.if_icmp .ne 31, 3, 17, 0, .null, []), (.aload_n 0, 1, 0, 0, .null, []), (.iload 5, 2, 0, 0, .null, []), (.iconst 1, 1, 0, 0, .int (nI 1), []), (.invokevirtual 69, 3, 33, 3, .ref 439, [1, 1, 6]), (.iload 7, 2, 0, 0, .null, []), (.if_icmp .ne 19, 3, 17, 0, .null, []), (.aload_n 0, 1, 0, 0, .null, []), (.iload 5, 2, 0, 0, .null, []), (.iconst 2, 1, 0, 0, .int (nI 2), []), (.invokevirtual 69, 3, 33, 3, .ref 439, [1, 1, 6]), (.iload 8, 2, 0, 0, .null, []), (.if_icmp .ne 7, 3, 17, 0, .null, []), (.iconst 1, 1, 0, 0, .int (nI 1), []), (.goto 4, 3, 18, 0, .null, [])]
abbrev k_W_isPyramid_17 : List xE := [(.iconst 0, 1, 0, 0, .int (nI 0), [])]
abbrev k_W_isPyramid_18 : List xE := [(.istore 4, 2, 0, 0, .null, []), (.iinc 5 1, 3, 0, 0, .int (nI 1), []), (.goto (-220), 3, 3, 0, .null, [])]
abbrev k_W_isPyramid_19 : List xE := [(.iload 4, 2, 0, 0, .null, []), (.ifCond .eq 88, 3, 24, 0, .null, []), (.iload_n 2, 1, 0, 0, .null, []), (.aload_n 0, 1, 0, 0, .null, []), (.iconst 3, 1, 0, 0, .int (nI 3), []), (.invokevirtual 60, 3, 34, 2, .ref 115, [1, 1, 6]), (.aload_n 0, 1, 0, 0, .null, []), (.iconst 4, 1, 0, 0, .int (nI 4), []), (.invokevirtual 60, 3, 34, 2, .ref 115, [1, 1, 6]), (.iadd, 1, 0, 0, .null, []), (.if_icmp .ne 73, 3, 24, 0, .null, []), (.iload_n 3, 1, 0, 0, .null, []), (.aload_n 0, 1, 0, 0, .null, []), (.iconst 5, 1, 0, 0, .int (nI 5), []), (.invokevirtual 60, 3, 34, 2, .ref 115, [1, 1, 6]), (.if_icmp .ne 64, 3, 24, 0, .null, []), (.aload_n 0, 1, 0, 0, .null, []), (.bipush 6, 2, 0, 0, .int (nI 6), []), (.invokevirtual 60, 3, 34, 2, .ref 115, [1, 1, 6]), (.iload_n 2, 1, 0, 0, .null, []), (.if_icmp .gt 54, 3, 24, 0, .null, []), (.iload_n 2, 1, 0, 0, .null, []), (.iconst 3, 1, 0, 0, .int (nI 3), []), (.aload_n 0, 1, 0, 0, .null, []), (.bipush 6, 2, 0, 0, .int (nI 6), []), (.invokevirtual 60, 3, 34, 2, .ref 115, [1, 1, 6]), (.imul, 1, 0, 0, .null, []), (.if_icmp .gt 42, 3, 24, 0, .null, []), (.aload_n 0, 1, 0, 0, .null, []), (.invokevirtual 72, 3, 42, 1, .ref 282, [1]), (.dconst 0, 1, 0, 0, .double FP.dconst0, []), (.dcmp .l, 1, 0, 0, .null, []), (.ifCond .ne 7, 3, 20, 0, .null, []), (.iconst 1, 1, 0, 0, .int (nI 1), []), (.goto 4, 3, 21, 0, .null, [])]
abbrev k_W_isPyramid_20 : List xE := [(.iconst 0, 1, 0, 0, .int (nI 0), [])]
abbrev k_W_isPyramid_21 : List xE := [(.iload_n 3, 1, 0, 0, .null, []), (.ifCond .ne 7, 3, 22, 0, .null, []), (.iconst 1, 1, 0, 0, .int (nI 1), []), (.goto 4, 3, 23, 0, .null, [])]
abbrev k_W_isPyramid_22 : List xE := [(.iconst 0, 1, 0, 0, .int (nI 0), [])]
abbrev k_W_isPyramid_23 : List xE := [(.if_icmp .ne 16, 3, 24, 0, .null, []), (.aload_n 0, 1, 0, 0, .null, []), (.invokevirtual 72, 3, 42, 1, .ref 282, [1]), (.dconst 1, 1, 0, 0, .double FP.dconst1, []), (.dcmp .g, 1, 0, 0, .null, []), (.ifCond .gt 7, 3, 24, 0, .null, []), (.iconst 1, 1, 0, 0, .int (nI 1), []), (.goto 4, 3, 25, 0, .null, [])]
abbrev k_W_isPyramid_24 : List xE := [(.iconst 0, 1, 0, 0, .int (nI 0), [])]
abbrev k_W_isPyramid_25 : List xE := [(.ireturn, 1, 0, 0, .null, [])]
def b_W_isPyramid : List xB := [(0, k_W_isPyramid_0, 26), (26, k_W_isPyramid_1, 2), (27, k_W_isPyramid_2, 3), (32, k_W_isPyramid_3, 4), (55, k_W_isPyramid_4, 26), (89, k_W_isPyramid_5, 6), (90, k_W_isPyramid_6, 26), (103, k_W_isPyramid_7, 8), (104, k_W_isPyramid_8, 26), (122, k_W_isPyramid_9, 10), (124, k_W_isPyramid_10, 26), (136, k_W_isPyramid_11, 12), (138, k_W_isPyramid_12, 13), (168, k_W_isPyramid_13, 26), (172, k_W_isPyramid_14, 15), (173, k_W_isPyramid_15, 26), (181, k_W_isPyramid_16, 26), (246, k_W_isPyramid_17, 18), (247, k_W_isPyramid_18, 26), (255, k_W_isPyramid_19, 26), (319, k_W_isPyramid_20, 21), (320, k_W_isPyramid_21, 26), (328, k_W_isPyramid_22, 23), (329, k_W_isPyramid_23, 26), (345, k_W_isPyramid_24, 25), (346, k_W_isPyramid_25, 26)]
def m_W_isPyramid : xM := (yL_isPyramid, cL_isPyramid, 11, (some .boolean), 100, 600, false, b_W_isPyramid)
abbrev N_W_isPyramid : Nat := 66
abbrev k_W_isPlay_0 : List xE := [(.iconst 0, 1, 0, 0, .int (nI 0), []), (.istore_n 1, 1, 0, 0, .null, []), (.iconst 1, 1, 0, 0, .int (nI 1), []), (.istore_n 2, 1, 0, 0, .null, []), (.iconst 0, 1, 0, 0, .int (nI 0), []), (.istore_n 3, 1, 0, 0, .null, [])]
abbrev k_W_isPlay_1 : List xE := [(.iload_n 3, 1, 0, 0, .null, []), (.iconst 5, 1, 0, 0, .int (nI 5), []), (.if_icmp .ge 183, 3, 20, 0, .null, []), (.iload_n 2, 1, 0, 0, .null, []), (.ifCond .eq 179, 3, 20, 0, .null, []), (.iconst 0, 1, 0, 0, .int (nI 0), []), (.istore 4, 2, 0, 0, .null, []), (.iconst 1, 1, 0, 0, .int (nI 1), []), (.istore 5, 2, 0, 0, .null, [])]
abbrev k_W_isPlay_2 : List xE := [(.iload 5, 2, 0, 0, .null, []), (.iconst 5, 1, 0, 0, .int (nI 5), []), (.if_icmp .gt 140, 3, 17, 0, .null, []), (.iload_n 2, 1, 0, 0, .null, []), (.ifCond .eq 136, 3, 17, 0, .null, []), (.aload_n 0, 1, 0, 0, .null, []), (.iload_n 3, 1, 0, 0, .null, []), (.iload 5, 2, 0, 0, .null, []), (.invokevirtual 76, 3, 36, 3, .ref 459, [1, 1, 6]), (.istore 6, 2, 0, 0, .null, []), (.aload_n 0, 1, 0, 0, .null, []), (.iload_n 3, 1, 0, 0, .null, []), (.iload 5, 2, 0, 0, .null, []), (.invokevirtual 79, 3, 37, 3, .ref 463, [1, 1, 6]), (.istore 7, 2, 0, 0, .null, []), (.iload_n 1, 1, 0, 0, .null, []), (.iload 6, 2, 0, 0, .null, []), (.ifCond .ne 7, 3, 3, 0, .null, []), (.iconst 1, 1, 0, 0, .int (nI 1), []), (.goto 4, 3, 4, 0, .null, [])]
abbrev k_W_isPlay_3 : List xE := [(.iconst 0, 1, 0, 0, .int (nI 0), [])]
abbrev k_W_isPlay_4 : List xE := [(.iadd, 1, 0, 0, .null, []), (.istore_n 1, 1, 0, 0, .null, []), (.iload 6, 2, 0, 0, .null, []), (.ifCond .ne 8, 3, 5, 0, .null, []), (.iload 5, 2, 0, 0, .null, []), (.goto 5, 3, 6, 0, .null, [])]
abbrev k_W_isPlay_5 : List xE := [(.iload 4, 2, 0, 0, .null, [])]
abbrev k_W_isPlay_6 : List xE := [(.istore 4, 2, 0, 0, .null, []), (.iload 7, 2, 0, 0, .null, []), (.ifCond .ge 7, 3, 7, 0, .null, []), (.iconst 1, 1, 0, 0, .int (nI 1), []), (.goto 4, 3, 8, 0, .null, [])]
abbrev k_W_isPlay_7 : List xE := [(.iconst 0, 1, 0, 0, .int (nI 0), [])]
abbrev k_W_isPlay_8 : List xE := [(.iload 5, 2, 0, 0, .null, []), (.aload_n 0, 1, 0, 0, .null, []), (.iload_n 3, 1, 0, 0, .null, []), (.iconst 0, 1, 0, 0, .int (nI 0), []), (.invokevirtual 69, 3, 33, 3, .ref 439, [1, 1, 6]), (.if_icmp .le 7, 3, 9, 0, .null, []), (.iconst 1, 1, 0, 0, .int (nI 1), []), (.goto 4, 3, 10, 0, .null, [])]
abbrev k_W_isPlay_9 : List xE := [(.iconst 0, 1, 0, 0, .int (nI 0), [])]
abbrev k_W_isPlay_10 : List xE := [(.if_icmp .ne 54, 3, 15, 0, .null, []), (.iload 6, 2, 0, 0, .null, []), (.iload 5, 2, 0, 0, .null, []), (.aload_n 0, 1, 0, 0, .null, []), (.iconst 0, 1, 0, 0, .int (nI 0), []), (.invokevirtual 82, 3, 35, 2, .ref 467, [1, 1, 6]), (.if_icmp .le 7, 3, 11, 0, .null, []), (.iconst 1, 1, 0, 0, .int (nI 1), []), (.goto 31, 3, 14, 0, .null, [])]
abbrev k_W_isPlay_11 : List xE := [(.iload 7, 2, 0, 0, .null, []), (.ifCond .ge 7, 3, 12, 0, .null, []), (.iconst 2, 1, 0, 0, .int (nI 2), []), (.goto 22, 3, 14, 0, .null, [])]
abbrev k_W_isPlay_12 : List xE := [(.aload_n 0, 1, 0, 0, .null, []), (.iconst 1, 1, 0, 0, .int (nI 1), []), (.invokevirtual 82, 3, 35, 2, .ref 467, [1, 1, 6]), (.iconst 1, 1, 0, 0, .int (nI 1), []), (.if_icmp .ne 12, 3, 13, 0, .null, []), (.iload 7, 2, 0, 0, .null, []), (.ifCond .le 7, 3, 13, 0, .null, []), (.iconst 3, 1, 0, 0, .int (nI 3), []), (.goto 4, 3, 14, 0, .null, [])]
abbrev k_W_isPlay_13 : List xE := [(.iconst 0, 1, 0, 0, .int (nI 0), [])]
abbrev k_W_isPlay_14 : List xE := [(.if_icmp .ne 7, 3, 15, 0, .null, []), (.iconst 1, 1, 0, 0, .int (nI 1), []), (.goto 4, 3, 16, 0, .null, [])]
abbrev k_W_isPlay_15 : List xE := [(.iconst 0, 1, 0, 0, .int (nI 0), [])]
abbrev k_W_isPlay_16 : List xE := [(.istore_n 2, 1, 0, 0, .null, []), (.iinc 5 1, 3, 0, 0, .int (nI 1), []), (.goto (-140), 3, 2, 0, .null, [])]
abbrev k_W_isPlay_17 : List xE := [(.iload_n 2, 1, 0, 0, .null, []), (.ifCond .eq 18, 3, 18, 0, .null, []), (.aload_n 0, 1, 0, 0, .null, []), (.iload_n 3, 1, 0, 0, .null, []), (.iconst 3, 1, 0, 0, .int (nI 3), []), (.invokevirtual 69, 3, 33, 3, .ref 439, [1, 1, 6]), (.iload 4, 2, 0, 0, .null, []), (.if_icmp .ne 7, 3, 18, 0, .null, []), (.iconst 1, 1, 0, 0, .int (nI 1), []), (.goto 4, 3, 19, 0, .null, [])]
abbrev k_W_isPlay_18 : List xE := [(.iconst 0, 1, 0, 0, .int (nI 0), [])]
abbrev k_W_isPlay_19 : List xE := [(.istore_n 2, 1, 0, 0, .null, []), (.iinc 3 1, 3, 0, 0, .int (nI 1), []), (.goto (-182), 3, 1, 0, .null, [])]
abbrev k_W_isPlay_20 : List xE := [(.aload_n 0, 1, 0, 0, .null, []), (.iconst 2, 1, 0, 0, .int (nI 2), []), (.invokevirtual 60, 3, 34, 2, .ref 115, [1, 1, 6]), (.istore_n 3, 1, 0, 0, .null, []), (.aload_n 0, 1, 0, 0, .null, []), (.invokevirtual 85, 3, 39, 1, .ref 471, [1, 4, 799, 1]), (.istore 4, 2, 0, 0, .null, []), (.iload_n 1, 1, 0, 0, .null, []), (.ifCond .ne 7, 3, 21, 0, .null, []), (.iconst 1, 1, 0, 0, .int (nI 1), []), (.goto 4, 3, 22, 0, .null, [])]
abbrev k_W_isPlay_21 : List xE := [(.iconst 0, 1, 0, 0, .int (nI 0), [])]
abbrev k_W_isPlay_22 : List xE := [(.istore 5, 2, 0, 0, .null, []), (.iload_n 2, 1, 0, 0, .null, []), (.ifCond .eq 98, 3, 29, 0, .null, []), (.iload_n 1, 1, 0, 0, .null, []), (.aload_n 0, 1, 0, 0, .null, []), (.bipush 7, 2, 0, 0, .int (nI 7), []), (.invokevirtual 60, 3, 34, 2, .ref 115, [1, 1, 6]), (.if_icmp .ne 88, 3, 29, 0, .null, []), (.aload_n 0, 1, 0, 0, .null, []), (.bipush 8, 2, 0, 0, .int (nI 8), []), (.invokevirtual 60, 3, 34, 2, .ref 115, [1, 1, 6]), (.ifCond .lt 7, 3, 23, 0, .null, []), (.iconst 1, 1, 0, 0, .int (nI 1), []), (.goto 4, 3, 24, 0, .null, [])]
abbrev k_W_isPlay_23 : List xE := [(.iconst 0, 1, 0, 0, .int (nI 0), [])]
abbrev k_W_isPlay_24 : List xE := [(.iload 5, 2, 0, 0, .null, []), (.if_icmp .ne 69, 3, 29, 0, .null, []), (.aload_n 0, 1, 0, 0, .null, []), (.iconst 0, 1, 0, 0, .int (nI 0), []), (.invokevirtual 88, 3, 40, 2, .ref 483, [1, 4, 799, 1]), (.ifCond .ne 7, 3, 25, 0, .null, []), (.iconst 1, 1, 0, 0, .int (nI 1), []), (.goto 4, 3, 26, 0, .null, [])]
abbrev k_W_isPlay_25 : List xE := [(.iconst 0, 1, 0, 0, .int (nI 0), [])]
abbrev k_W_isPlay_26 : List xE := [(.iload 5, 2, 0, 0, .null, []), (.if_icmp .ne 51, 3, 29, 0, .null, []), (.aload_n 0, 1, 0, 0, .null, []), (.iconst 1, 1, 0, 0, .int (nI 1), []), (.invokevirtual 88, 3, 40, 2, .ref 483, [1, 4, 799, 1]), (.ifCond .ne 7, 3, 27, 0, .null, []), (.iconst 1, 1, 0, 0, .int (nI 1), []), (.goto 4, 3, 28, 0, .null, [])]
abbrev k_W_isPlay_27 : List xE := [(.iconst 0, 1, 0, 0, .int (nI 0), [])]
abbrev k_W_isPlay_28 : List xE := [(.iload 5, 2, 0, 0, .null, []), (.if_icmp .ne 33, 3, 29, 0, .null, []), (.aload_n 0, 1, 0, 0, .null, []), (.iconst 1, 1, 0, 0, .int (nI 1), []), (.invokevirtual 88, 3, 40, 2, .ref 483, [1, 4, 799, 1]), (.aload_n 0, 1, 0, 0, .null, []), (.iconst 0, 1, 0, 0, .int (nI 0), []), (.invokevirtual 88, 3, 40, 2, .ref 483, [1, 4, 799, 1]), (.if_icmp .gt 20, 3, 29, 0, .null, []), (.aload_n 0, 1, 0, 0, .null, []), (.iconst 0, 1, 0, 0, .int (nI 0), []), (.invokevirtual 88, 3, 40, 2, .ref 483, [1, 4, 799, 1]), (.aload_n 0, 1, 0, 0, .null, []), (.iconst 1, 1, 0, 0, .int (nI 1), []), (.invokevirtual 60, 3, 34, 2, .ref 115, [1, 1, 6]), (.if_icmp .gt 7, 3, 29, 0, .null, []), (.iconst 1, 1, 0, 0, .int (nI 1), []), (.goto 4, 3, 30, 0, .null, [])]
abbrev k_W_isPlay_29 : List xE := [(.iconst 0, 1, 0, 0, .int (nI 0), [])]
abbrev k_W_isPlay_30 : List xE := [(.istore_n 2, 1, 0, 0, .null, []), (.iload_n 2, 1, 0, 0, .null, []), (.ifCond .eq 99, 3, 37, 0, .null, []), (.iload 5, 2, 0, 0, .null, []), (.ifCond .eq 50, 3, 33, 0, .null, []), (.iload 4, 2, 0, 0, .null, []), (.iconst (-1), 1, 0, 0, .int (-1), []), (.if_icmp .ne 88, 3, 37, 0, .null, []), (.aload_n 0, 1, 0, 0, .null, []), (.iload_n 3, 1, 0, 0, .null, []), (.invokevirtual 91, 3, 38, 2, .ref 496, [1, 4, 799, 1]), (.aload_n 0, 1, 0, 0, .null, []), (.iconst 2, 1, 0, 0, .int (nI 2), []), (.invokevirtual 82, 3, 35, 2, .ref 467, [1, 1, 6]), (.if_icmp .ne 75, 3, 37, 0, .null, []), (.aload_n 0, 1, 0, 0, .null, []), (.bipush 8, 2, 0, 0, .int (nI 8), []), (.invokevirtual 60, 3, 34, 2, .ref 115, [1, 1, 6]), (.aload_n 0, 1, 0, 0, .null, []), (.iconst 2, 1, 0, 0, .int (nI 2), []), (.invokevirtual 82, 3, 35, 2, .ref 467, [1, 1, 6]), (.iconst 1, 1, 0, 0, .int (nI 1), []), (.if_icmp .ne 7, 3, 31, 0, .null, []), (.iload_n 3, 1, 0, 0, .null, []), (.goto 6, 3, 32, 0, .null, [])]
abbrev k_W_isPlay_31 : List xE := [(.iconst 1, 1, 0, 0, .int (nI 1), []), (.iload_n 3, 1, 0, 0, .null, []), (.isub, 1, 0, 0, .null, [])]
abbrev k_W_isPlay_32 : List xE := [(.if_icmp .ne 50, 3, 37, 0, .null, []), (.goto 43, 3, 36, 0, .null, [])]
abbrev k_W_isPlay_33 : List xE := [(.aload_n 0, 1, 0, 0, .null, []), (.iload_n 3, 1, 0, 0, .null, []), (.invokevirtual 91, 3, 38, 2, .ref 496, [1, 4, 799, 1]), (.iload 4, 2, 0, 0, .null, []), (.ifCond .lt 7, 3, 34, 0, .null, []), (.iconst 1, 1, 0, 0, .int (nI 1), []), (.goto 4, 3, 35, 0, .null, [])]
abbrev k_W_isPlay_34 : List xE := [(.iconst 0, 1, 0, 0, .int (nI 0), [])]
abbrev k_W_isPlay_35 : List xE := [(.if_icmp .ne 29, 3, 37, 0, .null, []), (.iload 4, 2, 0, 0, .null, []), (.ifCond .lt 20, 3, 36, 0, .null, []), (.aload_n 0, 1, 0, 0, .null, []), (.iload 4, 2, 0, 0, .null, []), (.bipush 10, 2, 0, 0, .int (nI 10), []), (.idiv, 1, 0, 0, .null, []), (.iload 4, 2, 0, 0, .null, []), (.bipush 10, 2, 0, 0, .int (nI 10), []), (.irem, 1, 0, 0, .null, []), (.invokevirtual 76, 3, 36, 3, .ref 459, [1, 1, 6]), (.ifCond .ne 7, 3, 37, 0, .null, [])]
abbrev k_W_isPlay_36 : List xE := [(.iconst 1, 1, 0, 0, .int (nI 1), []), (.goto 4, 3, 38, 0, .null, [])]
abbrev k_W_isPlay_37 : List xE := [(.iconst 0, 1, 0, 0, .int (nI 0), [])]
abbrev k_W_isPlay_38 : List xE := [(.ireturn, 1, 0, 0, .null, [])]
def b_W_isPlay : List xB := [(0, k_W_isPlay_0, 1), (6, k_W_isPlay_1, 2), (21, k_W_isPlay_2, 39), (59, k_W_isPlay_3, 4), (60, k_W_isPlay_4, 39), (72, k_W_isPlay_5, 6), (74, k_W_isPlay_6, 39), (85, k_W_isPlay_7, 8), (86, k_W_isPlay_8, 39), (101, k_W_isPlay_9, 10), (102, k_W_isPlay_10, 39), (121, k_W_isPlay_11, 39), (130, k_W_isPlay_12, 39), (148, k_W_isPlay_13, 14), (149, k_W_isPlay_14, 39), (156, k_W_isPlay_15, 16), (157, k_W_isPlay_16, 39), (164, k_W_isPlay_17, 39), (183, k_W_isPlay_18, 19), (184, k_W_isPlay_19, 39), (191, k_W_isPlay_20, 39), (211, k_W_isPlay_21, 22), (212, k_W_isPlay_22, 39), (241, k_W_isPlay_23, 24), (242, k_W_isPlay_24, 39), (259, k_W_isPlay_25, 26), (260, k_W_isPlay_26, 39), (277, k_W_isPlay_27, 28), (278, k_W_isPlay_28, 39), (313, k_W_isPlay_29, 30), (314, k_W_isPlay_30, 39), (362, k_W_isPlay_31, 32), (365, k_W_isPlay_32, 39), (371, k_W_isPlay_33, 39), (385, k_W_isPlay_34, 35), (386, k_W_isPlay_35, 36), (411, k_W_isPlay_36, 39), (415, k_W_isPlay_37, 38), (416, k_W_isPlay_38, 39)]
def m_W_isPlay : xM := (yL_isPlay, cL_isPlay, 8, (some .boolean), 300, 9000, true, b_W_isPlay)
abbrev N_W_isPlay : Nat := 67
def xT : List xM := [m_J_bitCount, m_J_max, m_J_min, m_P_bit, m_P_bitsOf, m_P_hasBottle, m_P_hasRoom, m_P_settled, m_P_mirrored, m_P_robbed, m_P_fallenBy, m_P_allShapes, m_P_addShapes, m_L_init, m_L_playOut, m_L_slotBehind, m_L_slotOf, m_L_isWonBy, m_L_longestGame, m_L_shortestGame, m_L_shapesWonBy, m_L_shapesOver, m_B_init, m_B_take, m_B_turn, m_B_knock, m_B_put, m_B_mirror, m_B_refill, m_B_set, m_B_keep, m_B_goBack, m_B_undo, m_B_row, m_B_count, m_B_setting, m_B_why, m_B_falls, m_B_wins, m_B_best, m_B_length, m_B_pyramids, m_B_brokenShare, m_B_wonShare, m_B_isRow, m_B_isPlace, m_B_isSetting, m_B_save, m_B_isBarring, m_B_reasonAgainst, m_B_maskBehind, m_B_steal, m_B_knockOut, m_B_letFall, m_B_addBottle, m_B_swapSides, m_B_fillUp, m_B_lowestPlace, m_B_highestPlace, m_B_greatestTheft, m_B_brokenInAll, m_B_possibleThefts, m_B_winner, m_B_play, m_W_bits, m_W_first, m_W_isPyramid, m_W_isPlay]
theorem t_J_bitCount : xT[0]? = some m_J_bitCount := rfl
theorem t_J_max : xT[1]? = some m_J_max := rfl
theorem t_J_min : xT[2]? = some m_J_min := rfl
theorem t_P_bit : xT[3]? = some m_P_bit := rfl
theorem t_P_bitsOf : xT[4]? = some m_P_bitsOf := rfl
theorem t_P_hasBottle : xT[5]? = some m_P_hasBottle := rfl
theorem t_P_hasRoom : xT[6]? = some m_P_hasRoom := rfl
theorem t_P_settled : xT[7]? = some m_P_settled := rfl
theorem t_P_mirrored : xT[8]? = some m_P_mirrored := rfl
theorem t_P_robbed : xT[9]? = some m_P_robbed := rfl
theorem t_P_fallenBy : xT[10]? = some m_P_fallenBy := rfl
theorem t_P_allShapes : xT[11]? = some m_P_allShapes := rfl
theorem t_P_addShapes : xT[12]? = some m_P_addShapes := rfl
theorem t_L_init : xT[13]? = some m_L_init := rfl
theorem t_L_playOut : xT[14]? = some m_L_playOut := rfl
theorem t_L_slotBehind : xT[15]? = some m_L_slotBehind := rfl
theorem t_L_slotOf : xT[16]? = some m_L_slotOf := rfl
theorem t_L_isWonBy : xT[17]? = some m_L_isWonBy := rfl
theorem t_L_longestGame : xT[18]? = some m_L_longestGame := rfl
theorem t_L_shortestGame : xT[19]? = some m_L_shortestGame := rfl
theorem t_L_shapesWonBy : xT[20]? = some m_L_shapesWonBy := rfl
theorem t_L_shapesOver : xT[21]? = some m_L_shapesOver := rfl
theorem t_B_init : xT[22]? = some m_B_init := rfl
theorem t_B_take : xT[23]? = some m_B_take := rfl
theorem t_B_turn : xT[24]? = some m_B_turn := rfl
theorem t_B_knock : xT[25]? = some m_B_knock := rfl
theorem t_B_put : xT[26]? = some m_B_put := rfl
theorem t_B_mirror : xT[27]? = some m_B_mirror := rfl
theorem t_B_refill : xT[28]? = some m_B_refill := rfl
theorem t_B_set : xT[29]? = some m_B_set := rfl
theorem t_B_keep : xT[30]? = some m_B_keep := rfl
theorem t_B_goBack : xT[31]? = some m_B_goBack := rfl
theorem t_B_undo : xT[32]? = some m_B_undo := rfl
theorem t_B_row : xT[33]? = some m_B_row := rfl
theorem t_B_count : xT[34]? = some m_B_count := rfl
theorem t_B_setting : xT[35]? = some m_B_setting := rfl
theorem t_B_why : xT[36]? = some m_B_why := rfl
theorem t_B_falls : xT[37]? = some m_B_falls := rfl
theorem t_B_wins : xT[38]? = some m_B_wins := rfl
theorem t_B_best : xT[39]? = some m_B_best := rfl
theorem t_B_length : xT[40]? = some m_B_length := rfl
theorem t_B_pyramids : xT[41]? = some m_B_pyramids := rfl
theorem t_B_brokenShare : xT[42]? = some m_B_brokenShare := rfl
theorem t_B_wonShare : xT[43]? = some m_B_wonShare := rfl
theorem t_B_isRow : xT[44]? = some m_B_isRow := rfl
theorem t_B_isPlace : xT[45]? = some m_B_isPlace := rfl
theorem t_B_isSetting : xT[46]? = some m_B_isSetting := rfl
theorem t_B_save : xT[47]? = some m_B_save := rfl
theorem t_B_isBarring : xT[48]? = some m_B_isBarring := rfl
theorem t_B_reasonAgainst : xT[49]? = some m_B_reasonAgainst := rfl
theorem t_B_maskBehind : xT[50]? = some m_B_maskBehind := rfl
theorem t_B_steal : xT[51]? = some m_B_steal := rfl
theorem t_B_knockOut : xT[52]? = some m_B_knockOut := rfl
theorem t_B_letFall : xT[53]? = some m_B_letFall := rfl
theorem t_B_addBottle : xT[54]? = some m_B_addBottle := rfl
theorem t_B_swapSides : xT[55]? = some m_B_swapSides := rfl
theorem t_B_fillUp : xT[56]? = some m_B_fillUp := rfl
theorem t_B_lowestPlace : xT[57]? = some m_B_lowestPlace := rfl
theorem t_B_highestPlace : xT[58]? = some m_B_highestPlace := rfl
theorem t_B_greatestTheft : xT[59]? = some m_B_greatestTheft := rfl
theorem t_B_brokenInAll : xT[60]? = some m_B_brokenInAll := rfl
theorem t_B_possibleThefts : xT[61]? = some m_B_possibleThefts := rfl
theorem t_B_winner : xT[62]? = some m_B_winner := rfl
theorem t_B_play : xT[63]? = some m_B_play := rfl
theorem t_W_bits : xT[64]? = some m_W_bits := rfl
theorem t_W_first : xT[65]? = some m_W_first := rfl
theorem t_W_isPyramid : xT[66]? = some m_W_isPyramid := rfl
theorem t_W_isPlay : xT[67]? = some m_W_isPlay := rfl
def xKT : List (Nat × Nat) := [(0, 1), (0, 2), (0, 2), (0, 2), (0, 2), (0, 3), (0, 3), (0, 1), (0, 1), (0, 4), (0, 4), (0, 0), (0, 4), (2, 4), (1, 2), (1, 4), (1, 2), (1, 2), (1, 2), (1, 2), (1, 1), (1, 0), (2, 0), (1, 2), (1, 1), (1, 2), (1, 2), (1, 0), (1, 0), (1, 2), (1, 0), (1, 0), (1, 0), (1, 2), (1, 1), (1, 1), (1, 2), (1, 2), (1, 1), (1, 0), (1, 1), (1, 1), (1, 0), (1, 0), (0, 1), (0, 2), (0, 1), (1, 0), (1, 0), (1, 2), (1, 2), (1, 2), (1, 2), (1, 1), (1, 2), (1, 0), (1, 0), (1, 1), (1, 1), (1, 1), (1, 0), (1, 0), (1, 0), (1, 0), (0, 1), (0, 1), (0, 1), (0, 1)]
def xHT : List (Nat × Nat × Nat × Nat) := [(107, 29, 106, 0), (246, 38, 245, 0), (249, 38, 248, 0), (371, 28, 370, 0), (55, 28, 54, 0), (368, 28, 367, 0), (387, 28, 386, 0), (140, 28, 139, 0), (513, 28, 512, 0), (136, 28, 135, 0), (133, 28, 132, 0), (49, 28, 48, 0), (52, 28, 51, 0), (228, 37, 227, 0), (233, 37, 232, 9), (237, 37, 236, 10), (243, 37, 242, 11), (482, 37, 481, 22), (491, 37, 490, 23), (495, 37, 494, 24), (276, 37, 275, 12), (280, 37, 279, 13), (43, 27, 42, 0), (307, 27, 305, 306), (412, 27, 410, 411), (361, 27, 359, 360), (384, 27, 382, 383), (506, 27, 504, 505), (93, 27, 91, 92), (400, 27, 398, 399), (114, 27, 112, 113), (420, 27, 418, 419), (428, 27, 426, 427), (442, 27, 440, 441), (118, 27, 116, 117), (470, 27, 468, 469), (462, 27, 460, 461), (466, 27, 464, 465), (499, 27, 497, 498), (474, 27, 472, 473), (486, 27, 484, 485), (220, 27, 218, 219), (285, 27, 283, 284), (289, 27, 287, 288), (310, 27, 309, 0), (364, 27, 363, 0), (403, 27, 402, 0), (97, 27, 96, 0), (144, 27, 143, 5), (130, 27, 129, 4), (478, 27, 477, 21), (347, 27, 346, 14), (376, 27, 375, 16), (352, 27, 351, 15), (393, 27, 392, 17), (510, 27, 509, 25), (104, 27, 103, 1), (446, 27, 445, 18), (450, 27, 449, 19), (454, 27, 453, 20), (122, 27, 121, 2), (126, 27, 125, 3), (148, 27, 147, 6), (224, 27, 223, 8), (435, 26, 434, 0), (438, 26, 437, 0), (432, 26, 431, 0), (458, 26, 457, 0)]
end
section
/-! ===== how Ev is proved and used ===== -/
def NX : Nat → xH → Prop := fun _ _ => False
def Rt (r : Option Value) (h' : xH) : Option Value → xH → Prop := fun v g => v = r ∧ g = h'
theorem Ev_intro {T : List xM} {d M : Nat} {args : List Value} {h : xH} {Q : Option Value → xH → Prop} {X : Nat → xH → Prop} {y : MethodName} {cc : ByteArray} {nL : Nat} {ret : Option FieldType} {mc ms : Nat} {al : Bool} {bl : List xB}
    (hm : T[M]? = some (y, cc, nL, ret, mc, ms, al, bl)) (hl : (xfl args).length ≤ nL)
    (body : ∀ (Q' : Option Value → xH → Prop) (X' : Nat → xH → Prop), (∀ v g, Q v g → Q' v g) → (∀ k g, X k g → X' k g) → ∀ K : xK,
      (∀ (b pc : Nat) (es : List xE) (nx : Nat) (L : xL) (st : List Value) (g : xH) (c s : Nat), bl[b]? = some (pc, es, nx) →
        wpI none (fun M' a' h' Q' => Ev T d M' a' h' Q' NX) ret mc ms al Q' X' K nx es L st g c s → K b L st g c s) → K 0 (xent nL args) [] h 0 0) : Ev T (d + 1) M args h Q X :=
  ⟨_, hm, hl, fun Q' X' hQ hX K hK => body Q' X' hQ hX K (fun b pc es nx L st g c s hb hw => hK b (pc, es, nx) L st g c s hb hw)⟩
theorem Ev_mono {T : List xM} {d M : Nat} {args : List Value} {h : xH} {Q Q2 : Option Value → xH → Prop} {X X2 : Nat → xH → Prop} (hv : Ev T d M args h Q X) (hQ : ∀ v g, Q v g → Q2 v g) (hX : ∀ k g, X k g → X2 k g) : Ev T d M args h Q2 X2 := by
  cases d with
  | zero => exact hv
  | succ d =>
    obtain ⟨m, hm, hl, hv⟩ := hv
    exact ⟨m, hm, hl, fun Q' X' h1 h2 K hK => hv Q' X' (fun v g h => h1 v g (hQ v g h)) (fun k g h => h2 k g (hX k g h)) K hK⟩
theorem Ev_use {T : List xM} {d M : Nat} {args : List Value} {h h' : xH} {Q : Option Value → xH → Prop} {r : Option Value} (hv : Ev T d M args h (Rt r h') NX) (k : Q r h') : Ev T d M args h Q NX :=
  Ev_mono hv (fun v g hq => by obtain ⟨rfl, rfl⟩ := hq; exact k) (fun _ _ h => h)
theorem Ev_of {T : List xM} {d M : Nat} {args : List Value} {h : xH} {Q Q2 : Option Value → xH → Prop} (hv : Ev T d M args h Q NX) (k : ∀ v g, Q v g → Q2 v g) : Ev T d M args h Q2 NX := Ev_mono hv k (fun _ _ h => h)
/-! numbers -/
theorem n_i31 {k : Nat} (h : k < 32) : nI k &&& 31 = nI k := by
  have key : ∀ k, k < 32 → nI k &&& 31 = nI k := by decide +kernel
  exact key k h
theorem n_and (a b : Nat) : nI a &&& nI b = nI (a &&& b) := by
  apply Int32.toBitVec_inj.mp
  show BitVec.ofNat 32 a &&& BitVec.ofNat 32 b = BitVec.ofNat 32 (a &&& b)
  rw [BitVec.ofNat_and]
theorem n_or (a b : Nat) : nI a ||| nI b = nI (a ||| b) := by
  apply Int32.toBitVec_inj.mp
  show BitVec.ofNat 32 a ||| BitVec.ofNat 32 b = BitVec.ofNat 32 (a ||| b)
  rw [BitVec.ofNat_or]
theorem n_xor (a b : Nat) : nI a ^^^ nI b = nI (a ^^^ b) := by
  apply Int32.toBitVec_inj.mp
  show BitVec.ofNat 32 a ^^^ BitVec.ofNat 32 b = BitVec.ofNat 32 (a ^^^ b)
  rw [BitVec.ofNat_xor]
theorem n_sm {k : Nat} (h : k < 32) : ((nI k &&& 31).toBitVec.smod 32).toNat = k := by
  have key : ∀ k, k < 32 → ((nI k &&& 31).toBitVec.smod 32).toNat = k := by decide +kernel
  exact key k h
theorem n_shr {n k : Nat} (hn : n < 2 ^ 31) (h : k < 32) : nI n >>> nI k = nI (n >>> k) := by
  have e := pk_shrN hn _ k (n_sm h)
  rw [n_i31 h] at e
  rw [e, Nat.shiftRight_eq_div_pow]
theorem n_shl {n k : Nat} (hk : k < 32) (h : n <<< k < 2 ^ 32) : nI n <<< nI k = nI (n <<< k) := by
  rw [Nat.shiftLeft_eq] at h ⊢
  have e := pk_shlN _ k (n_sm hk) h
  rw [n_i31 hk] at e
  exact e
theorem n_m1 : (-1 : Int32) = nI 4294967295 := by decide +kernel
theorem n_cl {n : Nat} (h : n < 2 ^ 31) : (nI n).toNatClampNeg = n := nI_clamp h
theorem n_b1 (b : Bool) : (if b then nI 1 else nI 0) = nI (if b then 1 else 0) := by cases b <;> rfl
theorem f40 : ((0 : Fin 4) : Nat) = 0 := rfl
theorem f41 : ((1 : Fin 4) : Nat) = 1 := rfl
theorem f42 : ((2 : Fin 4) : Nat) = 2 := rfl
theorem f43 : ((3 : Fin 4) : Nat) = 3 := rfl
theorem n_in {i n : Nat} (h : i < 2 ^ 31) : vp_in (nI i) n ↔ i < n := by
  unfold vp_in
  rw [nI_clamp h]
  constructor
  · intro q; exact Nat.not_le.mp fun z => q (Or.inr z)
  · rintro q (z | z)
    · exact nI_pos h z
    · omega
theorem n_e0 {a : Nat} (h : a < 2 ^ 32) : nI a = 0 ↔ a = 0 := by
  constructor
  · intro q
    have q : BitVec.ofNat 32 a = 0#32 := Int32.toBitVec_inj.mpr q
    have q := congrArg BitVec.toNat q
    rw [BitVec.toNat_ofNat, Nat.mod_eq_of_lt h] at q
    exact q
  · rintro rfl; rfl
theorem n_eq {a b : Nat} (ha : a < 2 ^ 32) (hb : b < 2 ^ 32) : nI a = nI b ↔ a = b := by
  constructor
  · intro q
    have q : BitVec.ofNat 32 a = BitVec.ofNat 32 b := Int32.toBitVec_inj.mpr q
    have q := congrArg BitVec.toNat q
    rw [BitVec.toNat_ofNat, BitVec.toNat_ofNat, Nat.mod_eq_of_lt ha, Nat.mod_eq_of_lt hb] at q
    exact q
  · rintro rfl; rfl
theorem n_m1e {a : Nat} (h : a < 2 ^ 31) : nI a = -1 ↔ False := by
  rw [n_m1, n_eq (by omega) (by omega)]
  constructor
  · intro q; omega
  · exact False.elim
theorem n_l0 {a : Nat} (h : a < 2 ^ 31) : nI a < 0 ↔ False := ⟨fun q => nI_pos h q, False.elim⟩
theorem n_g0 {a : Nat} (h : a < 2 ^ 31) : 0 ≤ nI a ↔ True := ⟨fun _ => trivial, fun _ => nI_pos' h⟩
theorem n_p0 {a : Nat} (h : a < 2 ^ 31) : 0 < nI a ↔ 0 < a := by
  rw [← nI_0, nI_ltI (by omega) h]
theorem n_q0 {a : Nat} (h : a < 2 ^ 31) : nI a ≤ 0 ↔ a = 0 := by
  rw [← nI_0, nI_leI h (by omega)]; omega
theorem n_sub {a b : Nat} (h : b ≤ a) : nI a - nI b = nI (a - b) := pk_sub h
theorem n_div {a d : Nat} (ha : a < 2 ^ 31) (h0 : 0 < d) (hd : d < 2 ^ 31) : nI a / nI d = nI (a / d) := pk_div ha h0 hd
/-- a truth as a number -/
def bI (b : Bool) : Int32 := if b then nI 1 else nI 0
theorem bI_t : bI true = nI 1 := rfl
theorem bI_f : bI false = nI 0 := rfl
theorem bI_0 (b : Bool) : bI b = 0 ↔ b = false := by cases b <;> simp [bI] <;> decide
theorem bI_01 (b : Bool) : bI b = 0 ∨ bI b = 1 := by cases b <;> first | exact Or.inl rfl | exact Or.inr rfl
theorem n_1 : nI 1 = 1 := rfl
theorem n_01 : (nI 0 = 0 ∨ nI 0 = 1) ↔ True := ⟨fun _ => trivial, fun _ => Or.inl rfl⟩
theorem n_11 : (nI 1 = 0 ∨ nI 1 = 1) ↔ True := ⟨fun _ => trivial, fun _ => Or.inr rfl⟩
theorem bI_or (b : Bool) : (bI b = 0 ∨ bI b = 1) ↔ True := ⟨fun _ => trivial, fun _ => bI_01 b⟩
theorem Rt_iff {r v : Option Value} {h g : xH} : Rt r h v g ↔ v = r ∧ g = h := Iff.rfl
theorem b_nf {b : Bool} (h : ¬ b = false) : b = true := by cases b <;> first | rfl | exact absurd rfl h
end
section
/-! ===== Pile ===== -/
def rsN (r : Nat) : Nat := [0, 5, 9, 12, 14].getD r 0
theorem rs_at {r : Nat} (h : r < 5) : ([0, 5, 9, 12, 14] : List Int32).getD r 0 = nI (rsN r) := by
  have key : ∀ r, r < 5 → ([0, 5, 9, 12, 14] : List Int32).getD r 0 = nI (rsN r) := by decide +kernel
  exact key r h
theorem rs_lt (r : Nat) : rsN r < 15 := by
  have key : ∀ r, r < 5 → rsN r < 15 := by decide +kernel
  rcases Nat.lt_or_ge r 5 with h | h
  · exact key r h
  · unfold rsN
    rw [List.getD_eq_getElem?_getD, List.getElem?_eq_none (by simpa using h)]
    decide
theorem sh_le (m r x y : Nat) : ((m >>> r) &&& x &&& y) <<< r ≤ m := by
  rw [Nat.shiftLeft_eq]
  refine Nat.le_trans (Nat.mul_le_mul_right _ (Nat.le_trans Nat.and_le_left Nat.and_le_left)) ?_
  rw [Nat.shiftRight_eq_div_pow]
  exact Nat.div_mul_le_self _ _
theorem bit_lt {r p : Nat} (hp : p < 5) : 1 <<< (rsN r + p) < 2 ^ 19 := by
  have := rs_lt r
  rw [Nat.shiftLeft_eq, Nat.one_mul]
  exact Nat.pow_lt_pow_right (by decide) (by omega)
theorem and_bit (m k : Nat) : (m &&& (1 <<< k)) = 0 ↔ m.testBit k = false := by
  rw [Nat.shiftLeft_eq, Nat.one_mul]
  constructor
  · intro h
    have := congrArg (fun z => z.testBit k) h
    simpa [Nat.testBit_and, Nat.testBit_two_pow_self] using this
  · intro h
    apply Nat.eq_of_testBit_eq
    intro i
    rw [Nat.testBit_and, Nat.testBit_two_pow, Nat.zero_testBit]
    by_cases e : k = i
    · subst e; rw [h]; rfl
    · simp [e]
def hasN (m r p : Nat) : Bool := m.testBit (rsN r + p)
set_option maxRecDepth 100000 in
set_option maxHeartbeats 4000000 in
theorem ev_bit (d r p : Nat) (h : xH) (hr : r < 5) (hp : p < 5) : Ev xT (d + 1) N_P_bit [.int (nI r), .int (nI p)] h (Rt (some (.int (nI (1 <<< (rsN r + p))))) h) NX := by
  refine Ev_intro t_P_bit (Nat.le_of_ble_eq_true rfl) ?_
  intro Q X hQ hX K hK
  show K 0 [some (.int (nI r)), some (.int (nI p))] [] _ 0 0
  have h1 := rs_lt r
  have h2 := bit_lt (r := r) hp
  refine hK 0 _ _ _ _ _ _ _ _ rfl ?_
  dsimp only [k_P_bit_0, wpI, xop, xcall, xli, xlj, xlf, xld, xla, xlg, xst, xst2, xc1, pI, pJ, pF, pD, pR, pA, p1, p0, xpop, xpush, xsm, xhas, xif, xic, xsw, xai, xal, xhi, xhv, xrf, xret, xrtl, xrtf, xrtd, xrta, xrtv, xfit, xnew, cond_true, cond_false, f40, f41, f42, f43, List.length_cons, List.length_nil, Nat.reduceAdd, Nat.reduceSub, Nat.reduceMul, Nat.reduceBEq, List.map_cons, List.map_nil, List.headD_cons, List.getElem?_cons_zero, List.getElem?_cons_succ, List.set_cons_zero, List.set_cons_succ]
  simp (disch := omega) only [nI_add, n_and, n_or, n_xor, n_i31, nI_leI, nI_ltI, n_e0, n_eq, n_m1e, n_l0, n_g0, n_p0, n_q0, n_cl, n_in, n_sub, n_shr, n_shl, n_div, bI_0, n_01, n_11, bI_or, not_false_eq_true, forall_const, not_true_eq_false, false_imp_iff, true_imp_iff, rs_at]
  exact ⟨hr, Nat.le_refl _, Nat.le_refl _, hQ _ _ ⟨rfl, rfl⟩⟩
set_option maxRecDepth 100000 in
set_option maxHeartbeats 4000000 in
theorem ev_bitsOf (d m r : Nat) (h : xH) (hm : m < 32768) (hr : r < 5) : Ev xT (d + 1) N_P_bitsOf [.int (nI m), .int (nI r)] h (Rt (some (.int (nI ((m >>> rsN r) &&& ((1 <<< (5 - r)) - 1))))) h) NX := by
  refine Ev_intro t_P_bitsOf (Nat.le_of_ble_eq_true rfl) ?_
  intro Q X hQ hX K hK
  show K 0 [some (.int (nI m)), some (.int (nI r))] [] _ 0 0
  have h1 := rs_lt r
  have h2 : 1 <<< (5 - r) < 2 ^ 6 := by
    rw [Nat.shiftLeft_eq, Nat.one_mul]
    exact Nat.pow_lt_pow_right (by decide) (by omega)
  have h3 : 1 ≤ 1 <<< (5 - r) := by rw [Nat.shiftLeft_eq, Nat.one_mul]; exact Nat.two_pow_pos _
  refine hK 0 _ _ _ _ _ _ _ _ rfl ?_
  dsimp only [k_P_bitsOf_0, wpI, xop, xcall, xli, xlj, xlf, xld, xla, xlg, xst, xst2, xc1, pI, pJ, pF, pD, pR, pA, p1, p0, xpop, xpush, xsm, xhas, xif, xic, xsw, xai, xal, xhi, xhv, xrf, xret, xrtl, xrtf, xrtd, xrta, xrtv, xfit, xnew, cond_true, cond_false, f40, f41, f42, f43, List.length_cons, List.length_nil, Nat.reduceAdd, Nat.reduceSub, Nat.reduceMul, Nat.reduceBEq, List.map_cons, List.map_nil, List.headD_cons, List.getElem?_cons_zero, List.getElem?_cons_succ, List.set_cons_zero, List.set_cons_succ]
  simp (disch := omega) only [nI_add, n_and, n_or, n_xor, n_i31, nI_leI, nI_ltI, n_e0, n_eq, n_m1e, n_l0, n_g0, n_p0, n_q0, n_cl, n_in, n_sub, n_shr, n_shl, n_div, bI_0, n_01, n_11, bI_or, not_false_eq_true, forall_const, not_true_eq_false, false_imp_iff, true_imp_iff, rs_at]
  exact ⟨hr, Nat.le_refl _, Nat.le_refl _, hQ _ _ ⟨rfl, rfl⟩⟩
set_option maxRecDepth 100000 in
set_option maxHeartbeats 4000000 in
theorem ev_hasBottle (d m r p : Nat) (h : xH) (hm : m < 32768) (hr : r < 5) (hp : p < 5) : Ev xT (d + 2) N_P_hasBottle [.int (nI m), .int (nI r), .int (nI p)] h (Rt (some (.int (bI (hasN m r p)))) h) NX := by
  refine Ev_intro t_P_hasBottle (Nat.le_of_ble_eq_true rfl) ?_
  intro Q X hQ hX K hK
  show K 0 [some (.int (nI m)), some (.int (nI r)), some (.int (nI p))] [] _ 0 0
  have h2 := bit_lt (r := r) hp
  have h3 : m &&& 1 <<< (rsN r + p) < 32768 := Nat.lt_of_le_of_lt Nat.and_le_left hm
  refine hK 0 _ _ _ _ _ _ _ _ rfl ?_
  dsimp only [k_P_hasBottle_0, wpI, xop, xcall, xli, xlj, xlf, xld, xla, xlg, xst, xst2, xc1, pI, pJ, pF, pD, pR, pA, p1, p0, xpop, xpush, xsm, xhas, xif, xic, xsw, xai, xal, xhi, xhv, xrf, xret, xrtl, xrtf, xrtd, xrta, xrtv, xfit, xnew, cond_true, cond_false, f40, f41, f42, f43, List.length_cons, List.length_nil, Nat.reduceAdd, Nat.reduceSub, Nat.reduceMul, Nat.reduceBEq, List.map_cons, List.map_nil, List.headD_cons, List.getElem?_cons_zero, List.getElem?_cons_succ, List.set_cons_zero, List.set_cons_succ]
  refine Ev_use (ev_bit _ r p h hr hp) ?_
  dsimp only [wpI, xop, xcall, xli, xlj, xlf, xld, xla, xlg, xst, xst2, xc1, pI, pJ, pF, pD, pR, pA, p1, p0, xpop, xpush, xsm, xhas, xif, xic, xsw, xai, xal, xhi, xhv, xrf, xret, xrtl, xrtf, xrtd, xrta, xrtv, xfit, xnew, cond_true, cond_false, f40, f41, f42, f43, List.length_cons, List.length_nil, Nat.reduceAdd, Nat.reduceSub, Nat.reduceMul, Nat.reduceBEq, List.map_cons, List.map_nil, List.headD_cons, List.getElem?_cons_zero, List.getElem?_cons_succ, List.set_cons_zero, List.set_cons_succ]
  simp (disch := omega) only [nI_add, n_and, n_or, n_xor, n_i31, nI_leI, nI_ltI, n_e0, n_eq, n_m1e, n_l0, n_g0, n_p0, n_q0, n_cl, n_in, n_sub, n_shr, n_shl, n_div, bI_0, n_01, n_11, bI_or, not_false_eq_true, forall_const, not_true_eq_false, false_imp_iff, true_imp_iff]
  rw [and_bit]
  have hq := hQ _ _ ⟨rfl, rfl⟩
  refine ⟨fun z => ?_, fun z => ?_⟩
  · refine hK 1 _ _ _ _ _ _ _ _ rfl ?_
    dsimp only [k_P_hasBottle_1, wpI, xop, xcall, xli, xlj, xlf, xld, xla, xlg, xst, xst2, xc1, pI, pJ, pF, pD, pR, pA, p1, p0, xpop, xpush, xsm, xhas, xif, xic, xsw, xai, xal, xhi, xhv, xrf, xret, xrtl, xrtf, xrtd, xrta, xrtv, xfit, xnew, cond_true, cond_false, f40, f41, f42, f43, List.length_cons, List.length_nil, Nat.reduceAdd, Nat.reduceSub, Nat.reduceMul, Nat.reduceBEq, List.map_cons, List.map_nil, List.headD_cons, List.getElem?_cons_zero, List.getElem?_cons_succ, List.set_cons_zero, List.set_cons_succ]
    refine hK 2 _ _ _ _ _ _ _ _ rfl ?_
    dsimp only [k_P_hasBottle_2, wpI, xop, xcall, xli, xlj, xlf, xld, xla, xlg, xst, xst2, xc1, pI, pJ, pF, pD, pR, pA, p1, p0, xpop, xpush, xsm, xhas, xif, xic, xsw, xai, xal, xhi, xhv, xrf, xret, xrtl, xrtf, xrtd, xrta, xrtv, xfit, xnew, cond_true, cond_false, f40, f41, f42, f43, List.length_cons, List.length_nil, Nat.reduceAdd, Nat.reduceSub, Nat.reduceMul, Nat.reduceBEq, List.map_cons, List.map_nil, List.headD_cons, List.getElem?_cons_zero, List.getElem?_cons_succ, List.set_cons_zero, List.set_cons_succ]
    rw [show hasN m r p = false from z] at hq
    exact ⟨Or.inl rfl, Nat.le_refl _, Nat.le_refl _, hq⟩
  · refine hK 2 _ _ _ _ _ _ _ _ rfl ?_
    dsimp only [k_P_hasBottle_2, wpI, xop, xcall, xli, xlj, xlf, xld, xla, xlg, xst, xst2, xc1, pI, pJ, pF, pD, pR, pA, p1, p0, xpop, xpush, xsm, xhas, xif, xic, xsw, xai, xal, xhi, xhv, xrf, xret, xrtl, xrtf, xrtd, xrta, xrtv, xfit, xnew, cond_true, cond_false, f40, f41, f42, f43, List.length_cons, List.length_nil, Nat.reduceAdd, Nat.reduceSub, Nat.reduceMul, Nat.reduceBEq, List.map_cons, List.map_nil, List.headD_cons, List.getElem?_cons_zero, List.getElem?_cons_succ, List.set_cons_zero, List.set_cons_succ]
    rw [show hasN m r p = true from b_nf z] at hq
    exact ⟨Or.inr rfl, Nat.le_refl _, Nat.le_refl _, hq⟩
def hasRoomN (m r p : Nat) : Bool := !hasN m r p && (r == 0 || (hasN m (r - 1) p && hasN m (r - 1) (p + 1)))
set_option maxRecDepth 100000 in
set_option maxHeartbeats 4000000 in
theorem ev_hasRoom (d m r p : Nat) (h : xH) (hm : m < 32768) (hr : r < 5) (hp : p < 5 - r) : Ev xT (d + 3) N_P_hasRoom [.int (nI m), .int (nI r), .int (nI p)] h (Rt (some (.int (bI (hasRoomN m r p)))) h) NX := by
  refine Ev_intro t_P_hasRoom (Nat.le_of_ble_eq_true rfl) ?_
  intro Q X hQ hX K hK
  show K 0 [some (.int (nI m)), some (.int (nI r)), some (.int (nI p))] [] _ 0 0
  have hq := hQ _ _ ⟨rfl, rfl⟩
  unfold hasRoomN at hq
  refine hK 0 _ _ _ _ _ _ _ _ rfl ?_
  dsimp only [k_P_hasRoom_0, wpI, xop, xcall, xli, xlj, xlf, xld, xla, xlg, xst, xst2, xc1, pI, pJ, pF, pD, pR, pA, p1, p0, xpop, xpush, xsm, xhas, xif, xic, xsw, xai, xal, xhi, xhv, xrf, xret, xrtl, xrtf, xrtd, xrta, xrtv, xfit, xnew, cond_true, cond_false, f40, f41, f42, f43, List.length_cons, List.length_nil, Nat.reduceAdd, Nat.reduceSub, Nat.reduceMul, Nat.reduceBEq, List.map_cons, List.map_nil, List.headD_cons, List.getElem?_cons_zero, List.getElem?_cons_succ, List.set_cons_zero, List.set_cons_succ]
  refine Ev_use (ev_hasBottle _ m r p h hm hr (by omega)) ?_
  dsimp only [wpI, xop, xcall, xli, xlj, xlf, xld, xla, xlg, xst, xst2, xc1, pI, pJ, pF, pD, pR, pA, p1, p0, xpop, xpush, xsm, xhas, xif, xic, xsw, xai, xal, xhi, xhv, xrf, xret, xrtl, xrtf, xrtd, xrta, xrtv, xfit, xnew, cond_true, cond_false, f40, f41, f42, f43, List.length_cons, List.length_nil, Nat.reduceAdd, Nat.reduceSub, Nat.reduceMul, Nat.reduceBEq, List.map_cons, List.map_nil, List.headD_cons, List.getElem?_cons_zero, List.getElem?_cons_succ, List.set_cons_zero, List.set_cons_succ]
  simp (disch := omega) only [nI_add, n_and, n_or, n_xor, n_i31, nI_leI, nI_ltI, n_e0, n_eq, n_m1e, n_l0, n_g0, n_p0, n_q0, n_cl, n_in, n_sub, n_shr, n_shl, n_div, bI_0, n_01, n_11, bI_or, not_false_eq_true, forall_const, not_true_eq_false, false_imp_iff, true_imp_iff]
  refine ⟨fun z => ?_, fun z => ?_⟩
  · rw [z] at hq
    refine hK 1 _ _ _ _ _ _ _ _ rfl ?_
    dsimp only [k_P_hasRoom_1, wpI, xop, xcall, xli, xlj, xlf, xld, xla, xlg, xst, xst2, xc1, pI, pJ, pF, pD, pR, pA, p1, p0, xpop, xpush, xsm, xhas, xif, xic, xsw, xai, xal, xhi, xhv, xrf, xret, xrtl, xrtf, xrtd, xrta, xrtv, xfit, xnew, cond_true, cond_false, f40, f41, f42, f43, List.length_cons, List.length_nil, Nat.reduceAdd, Nat.reduceSub, Nat.reduceMul, Nat.reduceBEq, List.map_cons, List.map_nil, List.headD_cons, List.getElem?_cons_zero, List.getElem?_cons_succ, List.set_cons_zero, List.set_cons_succ]
    simp (disch := omega) only [nI_add, n_and, n_or, n_xor, n_i31, nI_leI, nI_ltI, n_e0, n_eq, n_m1e, n_l0, n_g0, n_p0, n_q0, n_cl, n_in, n_sub, n_shr, n_shl, n_div, bI_0, n_01, n_11, bI_or, not_false_eq_true, forall_const, not_true_eq_false, false_imp_iff, true_imp_iff]
    refine ⟨fun z1 => ?_, fun z1 => ?_⟩
    · subst z1
      refine hK 2 _ _ _ _ _ _ _ _ rfl ?_
      dsimp only [k_P_hasRoom_2, wpI, xop, xcall, xli, xlj, xlf, xld, xla, xlg, xst, xst2, xc1, pI, pJ, pF, pD, pR, pA, p1, p0, xpop, xpush, xsm, xhas, xif, xic, xsw, xai, xal, xhi, xhv, xrf, xret, xrtl, xrtf, xrtd, xrta, xrtv, xfit, xnew, cond_true, cond_false, f40, f41, f42, f43, List.length_cons, List.length_nil, Nat.reduceAdd, Nat.reduceSub, Nat.reduceMul, Nat.reduceBEq, List.map_cons, List.map_nil, List.headD_cons, List.getElem?_cons_zero, List.getElem?_cons_succ, List.set_cons_zero, List.set_cons_succ]
      refine hK 4 _ _ _ _ _ _ _ _ rfl ?_
      dsimp only [k_P_hasRoom_4, wpI, xop, xcall, xli, xlj, xlf, xld, xla, xlg, xst, xst2, xc1, pI, pJ, pF, pD, pR, pA, p1, p0, xpop, xpush, xsm, xhas, xif, xic, xsw, xai, xal, xhi, xhv, xrf, xret, xrtl, xrtf, xrtd, xrta, xrtv, xfit, xnew, cond_true, cond_false, f40, f41, f42, f43, List.length_cons, List.length_nil, Nat.reduceAdd, Nat.reduceSub, Nat.reduceMul, Nat.reduceBEq, List.map_cons, List.map_nil, List.headD_cons, List.getElem?_cons_zero, List.getElem?_cons_succ, List.set_cons_zero, List.set_cons_succ]
      exact ⟨Or.inr rfl, Nat.le_refl _, Nat.le_refl _, hq⟩
    · simp (disch := omega) only [nI_add, n_and, n_or, n_xor, n_i31, nI_leI, nI_ltI, n_e0, n_eq, n_m1e, n_l0, n_g0, n_p0, n_q0, n_cl, n_in, n_sub, n_shr, n_shl, n_div, bI_0, n_01, n_11, bI_or, not_false_eq_true, forall_const, not_true_eq_false, false_imp_iff, true_imp_iff]
      refine Ev_use (ev_hasBottle _ m (r - 1) p h hm (by omega) (by omega)) ?_
      dsimp only [wpI, xop, xcall, xli, xlj, xlf, xld, xla, xlg, xst, xst2, xc1, pI, pJ, pF, pD, pR, pA, p1, p0, xpop, xpush, xsm, xhas, xif, xic, xsw, xai, xal, xhi, xhv, xrf, xret, xrtl, xrtf, xrtd, xrta, xrtv, xfit, xnew, cond_true, cond_false, f40, f41, f42, f43, List.length_cons, List.length_nil, Nat.reduceAdd, Nat.reduceSub, Nat.reduceMul, Nat.reduceBEq, List.map_cons, List.map_nil, List.headD_cons, List.getElem?_cons_zero, List.getElem?_cons_succ, List.set_cons_zero, List.set_cons_succ]
      simp (disch := omega) only [nI_add, n_and, n_or, n_xor, n_i31, nI_leI, nI_ltI, n_e0, n_eq, n_m1e, n_l0, n_g0, n_p0, n_q0, n_cl, n_in, n_sub, n_shr, n_shl, n_div, bI_0, n_01, n_11, bI_or, not_false_eq_true, forall_const, not_true_eq_false, false_imp_iff, true_imp_iff]
      have e0 : (r == 0) = false := by simpa using z1
      rw [e0] at hq
      refine ⟨fun z2 => ?_, fun z2 => ?_⟩
      · rw [z2] at hq
        refine hK 3 _ _ _ _ _ _ _ _ rfl ?_
        dsimp only [k_P_hasRoom_3, wpI, xop, xcall, xli, xlj, xlf, xld, xla, xlg, xst, xst2, xc1, pI, pJ, pF, pD, pR, pA, p1, p0, xpop, xpush, xsm, xhas, xif, xic, xsw, xai, xal, xhi, xhv, xrf, xret, xrtl, xrtf, xrtd, xrta, xrtv, xfit, xnew, cond_true, cond_false, f40, f41, f42, f43, List.length_cons, List.length_nil, Nat.reduceAdd, Nat.reduceSub, Nat.reduceMul, Nat.reduceBEq, List.map_cons, List.map_nil, List.headD_cons, List.getElem?_cons_zero, List.getElem?_cons_succ, List.set_cons_zero, List.set_cons_succ]
        refine hK 4 _ _ _ _ _ _ _ _ rfl ?_
        dsimp only [k_P_hasRoom_4, wpI, xop, xcall, xli, xlj, xlf, xld, xla, xlg, xst, xst2, xc1, pI, pJ, pF, pD, pR, pA, p1, p0, xpop, xpush, xsm, xhas, xif, xic, xsw, xai, xal, xhi, xhv, xrf, xret, xrtl, xrtf, xrtd, xrta, xrtv, xfit, xnew, cond_true, cond_false, f40, f41, f42, f43, List.length_cons, List.length_nil, Nat.reduceAdd, Nat.reduceSub, Nat.reduceMul, Nat.reduceBEq, List.map_cons, List.map_nil, List.headD_cons, List.getElem?_cons_zero, List.getElem?_cons_succ, List.set_cons_zero, List.set_cons_succ]
        exact ⟨Or.inl rfl, Nat.le_refl _, Nat.le_refl _, hq⟩
      · rw [b_nf z2] at hq
        refine Ev_use (ev_hasBottle _ m (r - 1) (p + 1) h hm (by omega) (by omega)) ?_
        dsimp only [wpI, xop, xcall, xli, xlj, xlf, xld, xla, xlg, xst, xst2, xc1, pI, pJ, pF, pD, pR, pA, p1, p0, xpop, xpush, xsm, xhas, xif, xic, xsw, xai, xal, xhi, xhv, xrf, xret, xrtl, xrtf, xrtd, xrta, xrtv, xfit, xnew, cond_true, cond_false, f40, f41, f42, f43, List.length_cons, List.length_nil, Nat.reduceAdd, Nat.reduceSub, Nat.reduceMul, Nat.reduceBEq, List.map_cons, List.map_nil, List.headD_cons, List.getElem?_cons_zero, List.getElem?_cons_succ, List.set_cons_zero, List.set_cons_succ]
        simp (disch := omega) only [nI_add, n_and, n_or, n_xor, n_i31, nI_leI, nI_ltI, n_e0, n_eq, n_m1e, n_l0, n_g0, n_p0, n_q0, n_cl, n_in, n_sub, n_shr, n_shl, n_div, bI_0, n_01, n_11, bI_or, not_false_eq_true, forall_const, not_true_eq_false, false_imp_iff, true_imp_iff]
        refine ⟨fun z3 => ?_, fun z3 => ?_⟩
        · rw [z3] at hq
          refine hK 3 _ _ _ _ _ _ _ _ rfl ?_
          dsimp only [k_P_hasRoom_3, wpI, xop, xcall, xli, xlj, xlf, xld, xla, xlg, xst, xst2, xc1, pI, pJ, pF, pD, pR, pA, p1, p0, xpop, xpush, xsm, xhas, xif, xic, xsw, xai, xal, xhi, xhv, xrf, xret, xrtl, xrtf, xrtd, xrta, xrtv, xfit, xnew, cond_true, cond_false, f40, f41, f42, f43, List.length_cons, List.length_nil, Nat.reduceAdd, Nat.reduceSub, Nat.reduceMul, Nat.reduceBEq, List.map_cons, List.map_nil, List.headD_cons, List.getElem?_cons_zero, List.getElem?_cons_succ, List.set_cons_zero, List.set_cons_succ]
          refine hK 4 _ _ _ _ _ _ _ _ rfl ?_
          dsimp only [k_P_hasRoom_4, wpI, xop, xcall, xli, xlj, xlf, xld, xla, xlg, xst, xst2, xc1, pI, pJ, pF, pD, pR, pA, p1, p0, xpop, xpush, xsm, xhas, xif, xic, xsw, xai, xal, xhi, xhv, xrf, xret, xrtl, xrtf, xrtd, xrta, xrtv, xfit, xnew, cond_true, cond_false, f40, f41, f42, f43, List.length_cons, List.length_nil, Nat.reduceAdd, Nat.reduceSub, Nat.reduceMul, Nat.reduceBEq, List.map_cons, List.map_nil, List.headD_cons, List.getElem?_cons_zero, List.getElem?_cons_succ, List.set_cons_zero, List.set_cons_succ]
          exact ⟨Or.inl rfl, Nat.le_refl _, Nat.le_refl _, hq⟩
        · rw [b_nf z3] at hq
          refine hK 2 _ _ _ _ _ _ _ _ rfl ?_
          dsimp only [k_P_hasRoom_2, wpI, xop, xcall, xli, xlj, xlf, xld, xla, xlg, xst, xst2, xc1, pI, pJ, pF, pD, pR, pA, p1, p0, xpop, xpush, xsm, xhas, xif, xic, xsw, xai, xal, xhi, xhv, xrf, xret, xrtl, xrtf, xrtd, xrta, xrtv, xfit, xnew, cond_true, cond_false, f40, f41, f42, f43, List.length_cons, List.length_nil, Nat.reduceAdd, Nat.reduceSub, Nat.reduceMul, Nat.reduceBEq, List.map_cons, List.map_nil, List.headD_cons, List.getElem?_cons_zero, List.getElem?_cons_succ, List.set_cons_zero, List.set_cons_succ]
          refine hK 4 _ _ _ _ _ _ _ _ rfl ?_
          dsimp only [k_P_hasRoom_4, wpI, xop, xcall, xli, xlj, xlf, xld, xla, xlg, xst, xst2, xc1, pI, pJ, pF, pD, pR, pA, p1, p0, xpop, xpush, xsm, xhas, xif, xic, xsw, xai, xal, xhi, xhv, xrf, xret, xrtl, xrtf, xrtd, xrta, xrtv, xfit, xnew, cond_true, cond_false, f40, f41, f42, f43, List.length_cons, List.length_nil, Nat.reduceAdd, Nat.reduceSub, Nat.reduceMul, Nat.reduceBEq, List.map_cons, List.map_nil, List.headD_cons, List.getElem?_cons_zero, List.getElem?_cons_succ, List.set_cons_zero, List.set_cons_succ]
          exact ⟨Or.inr rfl, Nat.le_refl _, Nat.le_refl _, hq⟩
  · rw [b_nf z] at hq
    exact ⟨Or.inl trivial, Nat.le_refl _, Nat.le_refl _, hq⟩
def stl (m : Nat) : Nat → Nat → Nat → Nat → Nat
  | 0, _, l, _ => l
  | j + 1, i, l, b => stl m j (i + 1) (l ||| (((m >>> rsN i) &&& b &&& (b >>> 1)) <<< rsN i)) ((m >>> rsN i) &&& b &&& (b >>> 1))
def settledN (m : Nat) : Nat := stl m 4 1 (m &&& 31) (m &&& 31)
set_option maxRecDepth 100000 in
set_option maxHeartbeats 4000000 in
theorem ev_settled (d m : Nat) (h : xH) (hm : m < 32768) : Ev xT (d + 1) N_P_settled [.int (nI m)] h (Rt (some (.int (nI (settledN m)))) h) NX := by
  refine Ev_intro t_P_settled (Nat.le_of_ble_eq_true rfl) ?_
  intro Q X hQ hX K hK
  show K 0 [some (.int (nI m)), none, none, none] [] _ 0 0
  have loop : ∀ (j i l b : Nat), i + j = 5 → l < 32768 → b < 32 → Q (some (.int (nI (stl m j i l b)))) h → K 1 [some (.int (nI m)), some (.int (nI l)), some (.int (nI b)), some (.int (nI i))] [] h 0 0 := by
    intro j
    induction j with
    | zero =>
      intro i l b hi hl hb hq
      obtain rfl : i = 5 := by omega
      refine hK 1 _ _ _ _ _ _ _ _ rfl ?_
      dsimp only [k_P_settled_1, wpI, xop, xcall, xli, xlj, xlf, xld, xla, xlg, xst, xst2, xc1, pI, pJ, pF, pD, pR, pA, p1, p0, xpop, xpush, xsm, xhas, xif, xic, xsw, xai, xal, xhi, xhv, xrf, xret, xrtl, xrtf, xrtd, xrta, xrtv, xfit, xnew, cond_true, cond_false, f40, f41, f42, f43, List.length_cons, List.length_nil, Nat.reduceAdd, Nat.reduceSub, Nat.reduceMul, Nat.reduceBEq, List.map_cons, List.map_nil, List.headD_cons, List.getElem?_cons_zero, List.getElem?_cons_succ, List.set_cons_zero, List.set_cons_succ]
      refine br_t (by decide) ?_
      refine hK 2 _ _ _ _ _ _ _ _ rfl ?_
      dsimp only [k_P_settled_2, wpI, xop, xcall, xli, xlj, xlf, xld, xla, xlg, xst, xst2, xc1, pI, pJ, pF, pD, pR, pA, p1, p0, xpop, xpush, xsm, xhas, xif, xic, xsw, xai, xal, xhi, xhv, xrf, xret, xrtl, xrtf, xrtd, xrta, xrtv, xfit, xnew, cond_true, cond_false, f40, f41, f42, f43, List.length_cons, List.length_nil, Nat.reduceAdd, Nat.reduceSub, Nat.reduceMul, Nat.reduceBEq, List.map_cons, List.map_nil, List.headD_cons, List.getElem?_cons_zero, List.getElem?_cons_succ, List.set_cons_zero, List.set_cons_succ]
      exact ⟨Nat.le_refl _, Nat.le_refl _, hq⟩
    | succ j ih =>
      intro i l b hi hl hb hq
      have hr := rs_lt i
      have h1 : ((m >>> rsN i) &&& b &&& (b >>> 1)) < 32 := Nat.lt_of_le_of_lt (Nat.le_trans Nat.and_le_left Nat.and_le_right) hb
      have h2 : ((m >>> rsN i) &&& b &&& (b >>> 1)) <<< rsN i < 2 ^ 19 := by
        rw [Nat.shiftLeft_eq]
        exact Nat.lt_of_lt_of_le (Nat.mul_lt_mul_of_lt_of_le h1 (Nat.pow_le_pow_right (by decide) (Nat.le_of_lt_succ hr)) (Nat.two_pow_pos _)) (by decide)
      refine hK 1 _ _ _ _ _ _ _ _ rfl ?_
      dsimp only [k_P_settled_1, wpI, xop, xcall, xli, xlj, xlf, xld, xla, xlg, xst, xst2, xc1, pI, pJ, pF, pD, pR, pA, p1, p0, xpop, xpush, xsm, xhas, xif, xic, xsw, xai, xal, xhi, xhv, xrf, xret, xrtl, xrtf, xrtd, xrta, xrtv, xfit, xnew, cond_true, cond_false, f40, f41, f42, f43, List.length_cons, List.length_nil, Nat.reduceAdd, Nat.reduceSub, Nat.reduceMul, Nat.reduceBEq, List.map_cons, List.map_nil, List.headD_cons, List.getElem?_cons_zero, List.getElem?_cons_succ, List.set_cons_zero, List.set_cons_succ]
      simp (disch := omega) only [nI_add, n_and, n_or, n_xor, n_i31, nI_leI, nI_ltI, n_e0, n_eq, n_m1e, n_l0, n_g0, n_p0, n_q0, n_cl, n_in, n_sub, n_shr, n_shl, n_div, bI_0, n_01, n_11, bI_or, not_false_eq_true, forall_const, not_true_eq_false, false_imp_iff, true_imp_iff, rs_at]
      refine br_f (by omega) ⟨by omega, by omega, ?_⟩
      refine ih (i + 1) _ _ (by omega) ?_ h1 hq
      exact Nat.or_lt_two_pow (n := 15) hl (Nat.lt_of_le_of_lt (sh_le m (rsN i) _ _) hm)
  refine hK 0 _ _ _ _ _ _ _ _ rfl ?_
  dsimp only [k_P_settled_0, wpI, xop, xcall, xli, xlj, xlf, xld, xla, xlg, xst, xst2, xc1, pI, pJ, pF, pD, pR, pA, p1, p0, xpop, xpush, xsm, xhas, xif, xic, xsw, xai, xal, xhi, xhv, xrf, xret, xrtl, xrtf, xrtd, xrta, xrtv, xfit, xnew, cond_true, cond_false, f40, f41, f42, f43, List.length_cons, List.length_nil, Nat.reduceAdd, Nat.reduceSub, Nat.reduceMul, Nat.reduceBEq, List.map_cons, List.map_nil, List.headD_cons, List.getElem?_cons_zero, List.getElem?_cons_succ, List.set_cons_zero, List.set_cons_succ]
  simp (disch := omega) only [nI_add, n_and, n_or, n_xor, n_i31, nI_leI, nI_ltI, n_e0, n_eq, n_m1e, n_l0, n_g0, n_p0, n_q0, n_cl, n_in, n_sub, n_shr, n_shl, n_div, bI_0, n_01, n_11, bI_or, not_false_eq_true, forall_const, not_true_eq_false, false_imp_iff, true_imp_iff]
  have h31 : m &&& 31 < 32 := Nat.lt_of_le_of_lt Nat.and_le_right (by decide)
  exact loop 4 1 _ _ rfl (by omega) h31 (hQ _ _ ⟨rfl, rfl⟩)
/-! bitCount -/
theorem n_ush {n k : Nat} (hn : n < 2 ^ 32) (hk : k < 32) : ((nI n).toUInt32 >>> ((nI k).toUInt32 &&& Int32.toUInt32 31)).toInt32 = nI (n >>> k) := by
  have key : ∀ k, k < 32 → (((nI k).toUInt32 &&& Int32.toUInt32 31).toBitVec % 32).toNat = k := by decide +kernel
  rw [pk_ushrN hn _ k (key k hk), Nat.shiftRight_eq_div_pow]
def popN : Nat → Nat → Nat
  | 0, _ => 0
  | k + 1, n => popN k n + (n >>> k &&& 1)
abbrev pop (n : Nat) : Nat := popN 15 n
def bcA (n : Nat) : Nat := n - ((n >>> 1) &&& 1431655765)
def bcB (a : Nat) : Nat := (a &&& 858993459) + ((a >>> 2) &&& 858993459)
def bcC (b : Nat) : Nat := (b + (b >>> 4)) &&& 252645135
def bcD (c : Nat) : Nat := c + (c >>> 8)
def bcE (c : Nat) : Nat := (c + (c >>> 16)) &&& 63
theorem bc_pop : ∀ n, n < 32768 → bcE (bcD (bcC (bcB (bcA n)))) = pop n := by
  have key : (List.range 32768).all (fun n => Nat.beq (bcE (bcD (bcC (bcB (bcA n))))) (pop n)) = true := by decide +kernel
  intro n hn
  exact Nat.eq_of_beq_eq_true (List.all_eq_true.mp key n (List.mem_range.mpr hn))
set_option maxRecDepth 100000 in
set_option maxHeartbeats 4000000 in
theorem ev_bitCount (d n : Nat) (h : xH) (hn : n < 32768) : Ev xT (d + 1) N_J_bitCount [.int (nI n)] h (Rt (some (.int (nI (pop n)))) h) NX := by
  refine Ev_intro t_J_bitCount (Nat.le_of_ble_eq_true rfl) ?_
  intro Q X hQ hX K hK
  show K 0 [some (.int (nI n))] [] _ 0 0
  have a1 : (n >>> 1) &&& 1431655765 ≤ n := Nat.le_trans Nat.and_le_left (by rw [Nat.shiftRight_eq_div_pow]; exact Nat.div_le_self _ _)
  refine hK 0 _ _ _ _ _ _ _ _ rfl ?_
  dsimp only [k_J_bitCount_0, wpI, xop, xcall, xli, xlj, xlf, xld, xla, xlg, xst, xst2, xc1, pI, pJ, pF, pD, pR, pA, p1, p0, xpop, xpush, xsm, xhas, xif, xic, xsw, xai, xal, xhi, xhv, xrf, xret, xrtl, xrtf, xrtd, xrta, xrtv, xfit, xnew, cond_true, cond_false, f40, f41, f42, f43, List.length_cons, List.length_nil, Nat.reduceAdd, Nat.reduceSub, Nat.reduceMul, Nat.reduceBEq, List.map_cons, List.map_nil, List.headD_cons, List.getElem?_cons_zero, List.getElem?_cons_succ, List.set_cons_zero, List.set_cons_succ]
  simp (disch := omega) only [nI_add, n_and, n_or, n_xor, n_i31, nI_leI, nI_ltI, n_e0, n_eq, n_m1e, n_l0, n_g0, n_p0, n_q0, n_cl, n_in, n_sub, n_shr, n_shl, n_div, bI_0, n_01, n_11, bI_or, not_false_eq_true, forall_const, not_true_eq_false, false_imp_iff, true_imp_iff, n_ush]
  have ha : bcA n ≤ n := Nat.sub_le _ _
  have e1 : n - (n >>> 1 &&& 1431655765) = bcA n := rfl
  rw [e1]
  have hb : bcB (bcA n) ≤ 858993459 + 858993459 := Nat.add_le_add Nat.and_le_right Nat.and_le_right
  have e2 : (bcA n &&& 858993459) + (bcA n >>> 2 &&& 858993459) = bcB (bcA n) := rfl
  rw [e2]
  simp (disch := omega) only [nI_add, n_and, n_or, n_xor, n_i31, nI_leI, nI_ltI, n_e0, n_eq, n_m1e, n_l0, n_g0, n_p0, n_q0, n_cl, n_in, n_sub, n_shr, n_shl, n_div, bI_0, n_01, n_11, bI_or, not_false_eq_true, forall_const, not_true_eq_false, false_imp_iff, true_imp_iff, n_ush]
  have hc : bcC (bcB (bcA n)) ≤ 252645135 := Nat.and_le_right
  have e3 : (bcB (bcA n) + bcB (bcA n) >>> 4) &&& 252645135 = bcC (bcB (bcA n)) := rfl
  rw [e3]
  simp (disch := omega) only [nI_add, n_and, n_or, n_xor, n_i31, nI_leI, nI_ltI, n_e0, n_eq, n_m1e, n_l0, n_g0, n_p0, n_q0, n_cl, n_in, n_sub, n_shr, n_shl, n_div, bI_0, n_01, n_11, bI_or, not_false_eq_true, forall_const, not_true_eq_false, false_imp_iff, true_imp_iff, n_ush]
  have hd : bcD (bcC (bcB (bcA n))) ≤ 252645135 + 252645135 := Nat.add_le_add hc (Nat.le_trans (by rw [Nat.shiftRight_eq_div_pow]; exact Nat.div_le_self _ _) hc)
  have e4 : bcC (bcB (bcA n)) + bcC (bcB (bcA n)) >>> 8 = bcD (bcC (bcB (bcA n))) := rfl
  rw [e4]
  have e5 : (bcD (bcC (bcB (bcA n))) + bcD (bcC (bcB (bcA n))) >>> 16) &&& 63 = pop n := bc_pop n hn
  rw [e5]
  exact ⟨Nat.le_refl _, Nat.le_refl _, hQ _ _ ⟨rfl, rfl⟩⟩
/-! robbed -/
def robL (m t r : Nat) : Nat → Nat → Nat → Nat → Nat × Nat
  | 0, _, l, b => (l, b)
  | j + 1, i, l, b => if b = 0 then (l, b) else
    if l.testBit (rsN r + (if t = 0 then i else 4 - r - i)) then robL m t r j (i + 1) (l &&& ((1 <<< (rsN r + (if t = 0 then i else 4 - r - i))) ^^^ 4294967295)) (b - 1) else robL m t r j (i + 1) l b
/-- what a theft leaves before anything falls, and how many are still wanting -/
def robN (m t r b : Nat) : Nat × Nat := robL m t r (5 - r) 0 m b
theorem robL_lt {m t r : Nat} : ∀ (j i l b : Nat), l < 32768 → (robL m t r j i l b).1 < 32768
  | 0, _, l, _, h => h
  | j + 1, i, l, b, h => by
    rw [robL]
    by_cases hb : b = 0
    · rw [if_pos hb]; exact h
    · rw [if_neg hb]
      by_cases hc : l.testBit (rsN r + (if t = 0 then i else 4 - r - i)) = true
      · rw [if_pos hc]; exact robL_lt j _ _ _ (Nat.lt_of_le_of_lt Nat.and_le_left h)
      · rw [if_neg hc]; exact robL_lt j _ _ _ h
theorem rob_lt {m t r b : Nat} (h : m < 32768) : (robN m t r b).1 < 32768 := robL_lt _ _ _ _ h
set_option maxRecDepth 100000 in
set_option maxHeartbeats 4000000 in
theorem ev_robbed (d m t r b : Nat) (h : xH) (hm : m < 32768) (ht : t < 2) (hr : r < 5) (hb : b < 100) : Ev xT (d + 1) N_P_robbed [.int (nI m), .int (nI t), .int (nI r), .int (nI b)] h (Rt (some (.int (if (robN m t r b).2 = 0 then nI (robN m t r b).1 else -1))) h) NX := by
  refine Ev_intro t_P_robbed (Nat.le_of_ble_eq_true rfl) ?_
  intro Q X hQ hX K hK
  show K 0 [some (.int (nI m)), some (.int (nI t)), some (.int (nI r)), some (.int (nI b)), none, none, none, none, none] [] _ 0 0
  have fin : ∀ (L7 L8 : Option Value) (i l b' : Nat), b' < 100 → Q (some (.int (if b' = 0 then nI l else -1))) h → K 5 [some (.int (nI m)), some (.int (nI t)), some (.int (nI r)), some (.int (nI b)), some (.int (nI l)), some (.int (nI b')), some (.int (nI i)), L7, L8] [] h 0 0 := by
    intro L7 L8 i l b' hb' hq
    refine hK 5 _ _ _ _ _ _ _ _ rfl ?_
    dsimp only [k_P_robbed_5, wpI, xop, xcall, xli, xlj, xlf, xld, xla, xlg, xst, xst2, xc1, pI, pJ, pF, pD, pR, pA, p1, p0, xpop, xpush, xsm, xhas, xif, xic, xsw, xai, xal, xhi, xhv, xrf, xret, xrtl, xrtf, xrtd, xrta, xrtv, xfit, xnew, cond_true, cond_false, f40, f41, f42, f43, List.length_cons, List.length_nil, Nat.reduceAdd, Nat.reduceSub, Nat.reduceMul, Nat.reduceBEq, List.map_cons, List.map_nil, List.headD_cons, List.getElem?_cons_zero, List.getElem?_cons_succ, List.set_cons_zero, List.set_cons_succ]
    simp (disch := omega) only [nI_add, n_and, n_or, n_xor, n_i31, nI_leI, nI_ltI, n_e0, n_eq, n_m1e, n_l0, n_g0, n_p0, n_q0, n_cl, n_in, n_sub, n_shr, n_shl, n_div, bI_0, n_01, n_11, bI_or, not_false_eq_true, forall_const, not_true_eq_false, false_imp_iff, true_imp_iff]
    refine ⟨fun z => ?_, fun z => ?_⟩
    · rw [if_neg z] at hq
      refine hK 6 _ _ _ _ _ _ _ _ rfl ?_
      dsimp only [k_P_robbed_6, wpI, xop, xcall, xli, xlj, xlf, xld, xla, xlg, xst, xst2, xc1, pI, pJ, pF, pD, pR, pA, p1, p0, xpop, xpush, xsm, xhas, xif, xic, xsw, xai, xal, xhi, xhv, xrf, xret, xrtl, xrtf, xrtd, xrta, xrtv, xfit, xnew, cond_true, cond_false, f40, f41, f42, f43, List.length_cons, List.length_nil, Nat.reduceAdd, Nat.reduceSub, Nat.reduceMul, Nat.reduceBEq, List.map_cons, List.map_nil, List.headD_cons, List.getElem?_cons_zero, List.getElem?_cons_succ, List.set_cons_zero, List.set_cons_succ]
      refine hK 7 _ _ _ _ _ _ _ _ rfl ?_
      dsimp only [k_P_robbed_7, wpI, xop, xcall, xli, xlj, xlf, xld, xla, xlg, xst, xst2, xc1, pI, pJ, pF, pD, pR, pA, p1, p0, xpop, xpush, xsm, xhas, xif, xic, xsw, xai, xal, xhi, xhv, xrf, xret, xrtl, xrtf, xrtd, xrta, xrtv, xfit, xnew, cond_true, cond_false, f40, f41, f42, f43, List.length_cons, List.length_nil, Nat.reduceAdd, Nat.reduceSub, Nat.reduceMul, Nat.reduceBEq, List.map_cons, List.map_nil, List.headD_cons, List.getElem?_cons_zero, List.getElem?_cons_succ, List.set_cons_zero, List.set_cons_succ]
      exact ⟨Nat.le_refl _, Nat.le_refl _, hq⟩
    · rw [if_pos z] at hq
      refine hK 7 _ _ _ _ _ _ _ _ rfl ?_
      dsimp only [k_P_robbed_7, wpI, xop, xcall, xli, xlj, xlf, xld, xla, xlg, xst, xst2, xc1, pI, pJ, pF, pD, pR, pA, p1, p0, xpop, xpush, xsm, xhas, xif, xic, xsw, xai, xal, xhi, xhv, xrf, xret, xrtl, xrtf, xrtd, xrta, xrtv, xfit, xnew, cond_true, cond_false, f40, f41, f42, f43, List.length_cons, List.length_nil, Nat.reduceAdd, Nat.reduceSub, Nat.reduceMul, Nat.reduceBEq, List.map_cons, List.map_nil, List.headD_cons, List.getElem?_cons_zero, List.getElem?_cons_succ, List.set_cons_zero, List.set_cons_succ]
      exact ⟨Nat.le_refl _, Nat.le_refl _, hq⟩
  have loop : ∀ (j i l b' : Nat) (L7 L8 : Option Value), i + j = 5 - r → l < 32768 → b' < 100 → Q (some (.int (if (robL m t r j i l b').2 = 0 then nI (robL m t r j i l b').1 else -1))) h → K 1 [some (.int (nI m)), some (.int (nI t)), some (.int (nI r)), some (.int (nI b)), some (.int (nI l)), some (.int (nI b')), some (.int (nI i)), L7, L8] [] h 0 0 := by
    intro j
    induction j with
    | zero =>
      intro i l b' L7 L8 hi hl hb' hq
      refine hK 1 _ _ _ _ _ _ _ _ rfl ?_
      dsimp only [k_P_robbed_1, wpI, xop, xcall, xli, xlj, xlf, xld, xla, xlg, xst, xst2, xc1, pI, pJ, pF, pD, pR, pA, p1, p0, xpop, xpush, xsm, xhas, xif, xic, xsw, xai, xal, xhi, xhv, xrf, xret, xrtl, xrtf, xrtd, xrta, xrtv, xfit, xnew, cond_true, cond_false, f40, f41, f42, f43, List.length_cons, List.length_nil, Nat.reduceAdd, Nat.reduceSub, Nat.reduceMul, Nat.reduceBEq, List.map_cons, List.map_nil, List.headD_cons, List.getElem?_cons_zero, List.getElem?_cons_succ, List.set_cons_zero, List.set_cons_succ]
      simp (disch := omega) only [nI_add, n_and, n_or, n_xor, n_i31, nI_leI, nI_ltI, n_e0, n_eq, n_m1e, n_l0, n_g0, n_p0, n_q0, n_cl, n_in, n_sub, n_shr, n_shl, n_div, bI_0, n_01, n_11, bI_or, not_false_eq_true, forall_const, not_true_eq_false, false_imp_iff, true_imp_iff]
      exact br_t (by omega) (fin _ _ i l b' hb' hq)
    | succ j ih =>
      intro i l b' L7 L8 hi hl hb' hq
      refine hK 1 _ _ _ _ _ _ _ _ rfl ?_
      dsimp only [k_P_robbed_1, wpI, xop, xcall, xli, xlj, xlf, xld, xla, xlg, xst, xst2, xc1, pI, pJ, pF, pD, pR, pA, p1, p0, xpop, xpush, xsm, xhas, xif, xic, xsw, xai, xal, xhi, xhv, xrf, xret, xrtl, xrtf, xrtd, xrta, xrtv, xfit, xnew, cond_true, cond_false, f40, f41, f42, f43, List.length_cons, List.length_nil, Nat.reduceAdd, Nat.reduceSub, Nat.reduceMul, Nat.reduceBEq, List.map_cons, List.map_nil, List.headD_cons, List.getElem?_cons_zero, List.getElem?_cons_succ, List.set_cons_zero, List.set_cons_succ]
      simp (disch := omega) only [nI_add, n_and, n_or, n_xor, n_i31, nI_leI, nI_ltI, n_e0, n_eq, n_m1e, n_l0, n_g0, n_p0, n_q0, n_cl, n_in, n_sub, n_shr, n_shl, n_div, bI_0, n_01, n_11, bI_or, not_false_eq_true, forall_const, not_true_eq_false, false_imp_iff, true_imp_iff]
      refine br_f (by omega) ?_
      refine ⟨fun z => ?_, fun z => ?_⟩
      · unfold robL at hq
        rw [if_pos z] at hq
        exact fin _ _ i l b' hb' hq
      · have main : ∀ p, p = (if t = 0 then i else 4 - r - i) → K 3 [some (.int (nI m)), some (.int (nI t)), some (.int (nI r)), some (.int (nI b)), some (.int (nI l)), some (.int (nI b')), some (.int (nI i)), L7, L8] [.int (nI p)] h 0 0 := by
          intro p hp
          have hp5 : p < 5 := by rw [hp]; split <;> omega
          have h2 := bit_lt (r := r) hp5
          have h1 := rs_lt r
          have h3 : l &&& 1 <<< (rsN r + p) < 32768 := Nat.lt_of_le_of_lt Nat.and_le_left hl
          unfold robL at hq
          rw [if_neg z, ← hp] at hq
          generalize hbt : l.testBit (rsN r + p) = bt at hq
          refine hK 3 _ _ _ _ _ _ _ _ rfl ?_
          dsimp only [k_P_robbed_3, wpI, xop, xcall, xli, xlj, xlf, xld, xla, xlg, xst, xst2, xc1, pI, pJ, pF, pD, pR, pA, p1, p0, xpop, xpush, xsm, xhas, xif, xic, xsw, xai, xal, xhi, xhv, xrf, xret, xrtl, xrtf, xrtd, xrta, xrtv, xfit, xnew, cond_true, cond_false, f40, f41, f42, f43, List.length_cons, List.length_nil, Nat.reduceAdd, Nat.reduceSub, Nat.reduceMul, Nat.reduceBEq, List.map_cons, List.map_nil, List.headD_cons, List.getElem?_cons_zero, List.getElem?_cons_succ, List.set_cons_zero, List.set_cons_succ]
          rw [n_m1]
          simp (disch := omega) only [nI_add, n_and, n_or, n_xor, n_i31, nI_leI, nI_ltI, n_e0, n_eq, n_m1e, n_l0, n_g0, n_p0, n_q0, n_cl, n_in, n_sub, n_shr, n_shl, n_div, bI_0, n_01, n_11, bI_or, not_false_eq_true, forall_const, not_true_eq_false, false_imp_iff, true_imp_iff, rs_at]
          rw [and_bit]
          refine ⟨hr, fun z2 => ?_, fun z2 => ?_⟩
          · rw [z2] at hbt
            subst hbt
            simp only [Bool.false_eq_true, if_false] at hq
            refine hK 4 _ _ _ _ _ _ _ _ rfl ?_
            dsimp only [k_P_robbed_4, wpI, xop, xcall, xli, xlj, xlf, xld, xla, xlg, xst, xst2, xc1, pI, pJ, pF, pD, pR, pA, p1, p0, xpop, xpush, xsm, xhas, xif, xic, xsw, xai, xal, xhi, xhv, xrf, xret, xrtl, xrtf, xrtd, xrta, xrtv, xfit, xnew, cond_true, cond_false, f40, f41, f42, f43, List.length_cons, List.length_nil, Nat.reduceAdd, Nat.reduceSub, Nat.reduceMul, Nat.reduceBEq, List.map_cons, List.map_nil, List.headD_cons, List.getElem?_cons_zero, List.getElem?_cons_succ, List.set_cons_zero, List.set_cons_succ]
            simp (disch := omega) only [nI_add, n_and, n_or, n_xor, n_i31, nI_leI, nI_ltI, n_e0, n_eq, n_m1e, n_l0, n_g0, n_p0, n_q0, n_cl, n_in, n_sub, n_shr, n_shl, n_div, bI_0, n_01, n_11, bI_or, not_false_eq_true, forall_const, not_true_eq_false, false_imp_iff, true_imp_iff]
            exact ih (i + 1) l b' _ _ (by omega) hl hb' hq
          · rw [b_nf z2] at hbt
            subst hbt
            simp only [if_true] at hq
            have e9 : nI (b' + 4294967295) = nI (b' - 1) := by
              obtain ⟨c, rfl⟩ : ∃ c, b' = c + 1 := ⟨b' - 1, by omega⟩
              rw [← nI_add, ← n_m1]
              exact pk_m1 c
            rw [e9]
            refine hK 4 _ _ _ _ _ _ _ _ rfl ?_
            dsimp only [k_P_robbed_4, wpI, xop, xcall, xli, xlj, xlf, xld, xla, xlg, xst, xst2, xc1, pI, pJ, pF, pD, pR, pA, p1, p0, xpop, xpush, xsm, xhas, xif, xic, xsw, xai, xal, xhi, xhv, xrf, xret, xrtl, xrtf, xrtd, xrta, xrtv, xfit, xnew, cond_true, cond_false, f40, f41, f42, f43, List.length_cons, List.length_nil, Nat.reduceAdd, Nat.reduceSub, Nat.reduceMul, Nat.reduceBEq, List.map_cons, List.map_nil, List.headD_cons, List.getElem?_cons_zero, List.getElem?_cons_succ, List.set_cons_zero, List.set_cons_succ]
            simp (disch := omega) only [nI_add, n_and, n_or, n_xor, n_i31, nI_leI, nI_ltI, n_e0, n_eq, n_m1e, n_l0, n_g0, n_p0, n_q0, n_cl, n_in, n_sub, n_shr, n_shl, n_div, bI_0, n_01, n_11, bI_or, not_false_eq_true, forall_const, not_true_eq_false, false_imp_iff, true_imp_iff]
            exact ih (i + 1) _ (b' - 1) _ _ (by omega) (Nat.lt_of_le_of_lt Nat.and_le_left hl) (by omega) hq
        refine ⟨fun z1 => ?_, fun z1 => ?_⟩
        · refine hK 2 _ _ _ _ _ _ _ _ rfl ?_
          dsimp only [k_P_robbed_2, wpI, xop, xcall, xli, xlj, xlf, xld, xla, xlg, xst, xst2, xc1, pI, pJ, pF, pD, pR, pA, p1, p0, xpop, xpush, xsm, xhas, xif, xic, xsw, xai, xal, xhi, xhv, xrf, xret, xrtl, xrtf, xrtd, xrta, xrtv, xfit, xnew, cond_true, cond_false, f40, f41, f42, f43, List.length_cons, List.length_nil, Nat.reduceAdd, Nat.reduceSub, Nat.reduceMul, Nat.reduceBEq, List.map_cons, List.map_nil, List.headD_cons, List.getElem?_cons_zero, List.getElem?_cons_succ, List.set_cons_zero, List.set_cons_succ]
          simp (disch := omega) only [nI_add, n_and, n_or, n_xor, n_i31, nI_leI, nI_ltI, n_e0, n_eq, n_m1e, n_l0, n_g0, n_p0, n_q0, n_cl, n_in, n_sub, n_shr, n_shl, n_div, bI_0, n_01, n_11, bI_or, not_false_eq_true, forall_const, not_true_eq_false, false_imp_iff, true_imp_iff]
          exact main _ (by rw [if_neg z1])
        · exact main _ (by rw [if_pos z1])
  refine hK 0 _ _ _ _ _ _ _ _ rfl ?_
  dsimp only [k_P_robbed_0, wpI, xop, xcall, xli, xlj, xlf, xld, xla, xlg, xst, xst2, xc1, pI, pJ, pF, pD, pR, pA, p1, p0, xpop, xpush, xsm, xhas, xif, xic, xsw, xai, xal, xhi, xhv, xrf, xret, xrtl, xrtf, xrtd, xrta, xrtv, xfit, xnew, cond_true, cond_false, f40, f41, f42, f43, List.length_cons, List.length_nil, Nat.reduceAdd, Nat.reduceSub, Nat.reduceMul, Nat.reduceBEq, List.map_cons, List.map_nil, List.headD_cons, List.getElem?_cons_zero, List.getElem?_cons_succ, List.set_cons_zero, List.set_cons_succ]
  exact loop (5 - r) 0 m b none none (by omega) hm hb (hQ _ _ ⟨rfl, rfl⟩)
end
section
/-! what falls -/
theorem stl_lt : ∀ (j i l b m : Nat), l < 32768 → m < 32768 → stl m j i l b < 32768
  | 0, _, _, _, _, h, _ => h
  | j + 1, i, l, b, m, h, hm => stl_lt j _ _ _ m (Nat.or_lt_two_pow (n := 15) h (Nat.lt_of_le_of_lt (sh_le m (rsN i) _ _) hm)) hm
theorem settled_lt {m : Nat} (h : m < 32768) : settledN m < 32768 := stl_lt _ _ _ _ _ (Nat.lt_of_le_of_lt Nat.and_le_left h) h
theorem popN_mono (a b : Nat) (h : a &&& b = a) : ∀ k, popN k a ≤ popN k b
  | 0 => Nat.le_refl _
  | k + 1 => by
    have ih := popN_mono a b h k
    have e : a >>> k &&& 1 ≤ b >>> k &&& 1 := by
      rw [← h, Nat.shiftRight_and_distrib, Nat.and_assoc]
      exact Nat.and_le_right
    exact Nat.add_le_add ih e
theorem sh_sub (m r x y : Nat) : ((m >>> r &&& x &&& y) <<< r) &&& m = (m >>> r &&& x &&& y) <<< r := by
  apply Nat.eq_of_testBit_eq
  intro i
  simp only [Nat.testBit_and, Nat.testBit_shiftLeft, Nat.testBit_shiftRight]
  by_cases hi : r ≤ i
  · rw [Nat.add_sub_cancel' hi]
    cases m.testBit i <;> simp
  · simp [hi]
theorem stl_sub : ∀ (j i l b m : Nat), l &&& m = l → stl m j i l b &&& m = stl m j i l b
  | 0, _, _, _, _, h => h
  | j + 1, i, l, b, m, h => stl_sub j _ _ _ m (by rw [Nat.and_or_distrib_right, h, sh_sub])
theorem settled_sub (m : Nat) : settledN m &&& m = settledN m := stl_sub _ _ _ _ _ (by rw [Nat.and_assoc, Nat.and_comm 31 m, ← Nat.and_assoc, Nat.and_self])
theorem pop_settled (m : Nat) : pop (settledN m) ≤ pop m := popN_mono _ _ (settled_sub m) 15
theorem pop_le {m : Nat} (h : m < 32768) : pop m ≤ 15 := by
  have key : (List.range 32768).all (fun n => Nat.ble (pop n) 15) = true := by decide +kernel
  exact Nat.le_of_ble_eq_true (List.all_eq_true.mp key m (List.mem_range.mpr h))
def fallI (m t r b : Nat) : Int32 := if (robN m t r b).2 = 0 then nI (pop (robN m t r b).1 - pop (settledN (robN m t r b).1)) else -1
set_option maxRecDepth 100000 in
set_option maxHeartbeats 4000000 in
theorem ev_fallenBy (d m t r b : Nat) (h : xH) (hm : m < 32768) (ht : t < 2) (hr : r < 5) (hb : b < 100) : Ev xT (d + 2) N_P_fallenBy [.int (nI m), .int (nI t), .int (nI r), .int (nI b)] h (Rt (some (.int (fallI m t r b))) h) NX := by
  refine Ev_intro t_P_fallenBy (Nat.le_of_ble_eq_true rfl) ?_
  intro Q X hQ hX K hK
  show K 0 [some (.int (nI m)), some (.int (nI t)), some (.int (nI r)), some (.int (nI b)), none] [] _ 0 0
  have hq := hQ _ _ ⟨rfl, rfl⟩
  unfold fallI at hq
  have hl : (robN m t r b).1 < 32768 := rob_lt hm
  have hs := settled_lt hl
  have hp := pop_settled (robN m t r b).1
  have hp2 := pop_le hl
  refine hK 0 _ _ _ _ _ _ _ _ rfl ?_
  dsimp only [k_P_fallenBy_0, wpI, xop, xcall, xli, xlj, xlf, xld, xla, xlg, xst, xst2, xc1, pI, pJ, pF, pD, pR, pA, p1, p0, xpop, xpush, xsm, xhas, xif, xic, xsw, xai, xal, xhi, xhv, xrf, xret, xrtl, xrtf, xrtd, xrta, xrtv, xfit, xnew, cond_true, cond_false, f40, f41, f42, f43, List.length_cons, List.length_nil, Nat.reduceAdd, Nat.reduceSub, Nat.reduceMul, Nat.reduceBEq, List.map_cons, List.map_nil, List.headD_cons, List.getElem?_cons_zero, List.getElem?_cons_succ, List.set_cons_zero, List.set_cons_succ]
  refine Ev_use (ev_robbed _ m t r b h hm ht hr hb) ?_
  dsimp only [wpI, xop, xcall, xli, xlj, xlf, xld, xla, xlg, xst, xst2, xc1, pI, pJ, pF, pD, pR, pA, p1, p0, xpop, xpush, xsm, xhas, xif, xic, xsw, xai, xal, xhi, xhv, xrf, xret, xrtl, xrtf, xrtd, xrta, xrtv, xfit, xnew, cond_true, cond_false, f40, f41, f42, f43, List.length_cons, List.length_nil, Nat.reduceAdd, Nat.reduceSub, Nat.reduceMul, Nat.reduceBEq, List.map_cons, List.map_nil, List.headD_cons, List.getElem?_cons_zero, List.getElem?_cons_succ, List.set_cons_zero, List.set_cons_succ]
  by_cases z : (robN m t r b).2 = 0
  · rw [if_pos z] at hq ⊢
    simp (disch := omega) only [nI_add, n_and, n_or, n_xor, n_i31, nI_leI, nI_ltI, n_e0, n_eq, n_m1e, n_l0, n_g0, n_p0, n_q0, n_cl, n_in, n_sub, n_shr, n_shl, n_div, bI_0, n_01, n_11, bI_or, not_false_eq_true, forall_const, not_true_eq_false, false_imp_iff, true_imp_iff]
    refine ⟨?_, trivial⟩
    refine hK 1 _ _ _ _ _ _ _ _ rfl ?_
    dsimp only [k_P_fallenBy_1, wpI, xop, xcall, xli, xlj, xlf, xld, xla, xlg, xst, xst2, xc1, pI, pJ, pF, pD, pR, pA, p1, p0, xpop, xpush, xsm, xhas, xif, xic, xsw, xai, xal, xhi, xhv, xrf, xret, xrtl, xrtf, xrtd, xrta, xrtv, xfit, xnew, cond_true, cond_false, f40, f41, f42, f43, List.length_cons, List.length_nil, Nat.reduceAdd, Nat.reduceSub, Nat.reduceMul, Nat.reduceBEq, List.map_cons, List.map_nil, List.headD_cons, List.getElem?_cons_zero, List.getElem?_cons_succ, List.set_cons_zero, List.set_cons_succ]
    refine Ev_use (ev_bitCount _ _ h hl) ?_
    dsimp only [wpI, xop, xcall, xli, xlj, xlf, xld, xla, xlg, xst, xst2, xc1, pI, pJ, pF, pD, pR, pA, p1, p0, xpop, xpush, xsm, xhas, xif, xic, xsw, xai, xal, xhi, xhv, xrf, xret, xrtl, xrtf, xrtd, xrta, xrtv, xfit, xnew, cond_true, cond_false, f40, f41, f42, f43, List.length_cons, List.length_nil, Nat.reduceAdd, Nat.reduceSub, Nat.reduceMul, Nat.reduceBEq, List.map_cons, List.map_nil, List.headD_cons, List.getElem?_cons_zero, List.getElem?_cons_succ, List.set_cons_zero, List.set_cons_succ]
    refine Ev_use (ev_settled _ _ h hl) ?_
    dsimp only [wpI, xop, xcall, xli, xlj, xlf, xld, xla, xlg, xst, xst2, xc1, pI, pJ, pF, pD, pR, pA, p1, p0, xpop, xpush, xsm, xhas, xif, xic, xsw, xai, xal, xhi, xhv, xrf, xret, xrtl, xrtf, xrtd, xrta, xrtv, xfit, xnew, cond_true, cond_false, f40, f41, f42, f43, List.length_cons, List.length_nil, Nat.reduceAdd, Nat.reduceSub, Nat.reduceMul, Nat.reduceBEq, List.map_cons, List.map_nil, List.headD_cons, List.getElem?_cons_zero, List.getElem?_cons_succ, List.set_cons_zero, List.set_cons_succ]
    refine Ev_use (ev_bitCount _ _ h hs) ?_
    dsimp only [wpI, xop, xcall, xli, xlj, xlf, xld, xla, xlg, xst, xst2, xc1, pI, pJ, pF, pD, pR, pA, p1, p0, xpop, xpush, xsm, xhas, xif, xic, xsw, xai, xal, xhi, xhv, xrf, xret, xrtl, xrtf, xrtd, xrta, xrtv, xfit, xnew, cond_true, cond_false, f40, f41, f42, f43, List.length_cons, List.length_nil, Nat.reduceAdd, Nat.reduceSub, Nat.reduceMul, Nat.reduceBEq, List.map_cons, List.map_nil, List.headD_cons, List.getElem?_cons_zero, List.getElem?_cons_succ, List.set_cons_zero, List.set_cons_succ]
    simp (disch := omega) only [nI_add, n_and, n_or, n_xor, n_i31, nI_leI, nI_ltI, n_e0, n_eq, n_m1e, n_l0, n_g0, n_p0, n_q0, n_cl, n_in, n_sub, n_shr, n_shl, n_div, bI_0, n_01, n_11, bI_or, not_false_eq_true, forall_const, not_true_eq_false, false_imp_iff, true_imp_iff]
    refine hK 2 _ _ _ _ _ _ _ _ rfl ?_
    dsimp only [k_P_fallenBy_2, wpI, xop, xcall, xli, xlj, xlf, xld, xla, xlg, xst, xst2, xc1, pI, pJ, pF, pD, pR, pA, p1, p0, xpop, xpush, xsm, xhas, xif, xic, xsw, xai, xal, xhi, xhv, xrf, xret, xrtl, xrtf, xrtd, xrta, xrtv, xfit, xnew, cond_true, cond_false, f40, f41, f42, f43, List.length_cons, List.length_nil, Nat.reduceAdd, Nat.reduceSub, Nat.reduceMul, Nat.reduceBEq, List.map_cons, List.map_nil, List.headD_cons, List.getElem?_cons_zero, List.getElem?_cons_succ, List.set_cons_zero, List.set_cons_succ]
    exact ⟨Nat.le_refl _, Nat.le_refl _, hq⟩
  · rw [if_neg z] at hq ⊢
    refine ⟨fun z => (z rfl).elim, fun z => ?_⟩
    refine hK 2 _ _ _ _ _ _ _ _ rfl ?_
    dsimp only [k_P_fallenBy_2, wpI, xop, xcall, xli, xlj, xlf, xld, xla, xlg, xst, xst2, xc1, pI, pJ, pF, pD, pR, pA, p1, p0, xpop, xpush, xsm, xhas, xif, xic, xsw, xai, xal, xhi, xhv, xrf, xret, xrtl, xrtf, xrtd, xrta, xrtv, xfit, xnew, cond_true, cond_false, f40, f41, f42, f43, List.length_cons, List.length_nil, Nat.reduceAdd, Nat.reduceSub, Nat.reduceMul, Nat.reduceBEq, List.map_cons, List.map_nil, List.headD_cons, List.getElem?_cons_zero, List.getElem?_cons_succ, List.set_cons_zero, List.set_cons_succ]
    exact ⟨Nat.le_refl _, Nat.le_refl _, hq⟩
/-! mirrored -/
def mirP (m r : Nat) : Nat → Nat → Nat → Nat
  | 0, _, a => a
  | j + 1, p, a => mirP m r j (p + 1) (if hasN m r p then a ||| 1 <<< (rsN r + (4 - r - p)) else a)
def mirR (m : Nat) : Nat → Nat → Nat → Nat
  | 0, _, a => a
  | j + 1, r, a => mirR m j (r + 1) (mirP m r (5 - r) 0 a)
def mirN (m : Nat) : Nat := mirR m 5 0 0
set_option maxRecDepth 100000 in
set_option maxHeartbeats 4000000 in
theorem ev_mirrored (d m : Nat) (h : xH) (hm : m < 32768) : Ev xT (d + 3) N_P_mirrored [.int (nI m)] h (Rt (some (.int (nI (mirN m)))) h) NX := by
  refine Ev_intro t_P_mirrored (Nat.le_of_ble_eq_true rfl) ?_
  intro Q X hQ hX K hK
  show K 0 [some (.int (nI m)), none, none, none] [] _ 0 0
  have loop2 : ∀ (j p r a : Nat), r < 5 → p + j = 5 - r → (∀ L3, K 4 [some (.int (nI m)), some (.int (nI (mirP m r j p a))), some (.int (nI r)), L3] [] h 0 0) → K 2 [some (.int (nI m)), some (.int (nI a)), some (.int (nI r)), some (.int (nI p))] [] h 0 0 := by
    intro j
    induction j with
    | zero =>
      intro p r a hr hp hk
      refine hK 2 _ _ _ _ _ _ _ _ rfl ?_
      dsimp only [k_P_mirrored_2, wpI, xop, xcall, xli, xlj, xlf, xld, xla, xlg, xst, xst2, xc1, pI, pJ, pF, pD, pR, pA, p1, p0, xpop, xpush, xsm, xhas, xif, xic, xsw, xai, xal, xhi, xhv, xrf, xret, xrtl, xrtf, xrtd, xrta, xrtv, xfit, xnew, cond_true, cond_false, f40, f41, f42, f43, List.length_cons, List.length_nil, Nat.reduceAdd, Nat.reduceSub, Nat.reduceMul, Nat.reduceBEq, List.map_cons, List.map_nil, List.headD_cons, List.getElem?_cons_zero, List.getElem?_cons_succ, List.set_cons_zero, List.set_cons_succ]
      simp (disch := omega) only [nI_add, n_and, n_or, n_xor, n_i31, nI_leI, nI_ltI, n_e0, n_eq, n_m1e, n_l0, n_g0, n_p0, n_q0, n_cl, n_in, n_sub, n_shr, n_shl, n_div, bI_0, n_01, n_11, bI_or, not_false_eq_true, forall_const, not_true_eq_false, false_imp_iff, true_imp_iff]
      exact br_t (by omega) (hk _)
    | succ j ih =>
      intro p r a hr hp hk
      refine hK 2 _ _ _ _ _ _ _ _ rfl ?_
      dsimp only [k_P_mirrored_2, wpI, xop, xcall, xli, xlj, xlf, xld, xla, xlg, xst, xst2, xc1, pI, pJ, pF, pD, pR, pA, p1, p0, xpop, xpush, xsm, xhas, xif, xic, xsw, xai, xal, xhi, xhv, xrf, xret, xrtl, xrtf, xrtd, xrta, xrtv, xfit, xnew, cond_true, cond_false, f40, f41, f42, f43, List.length_cons, List.length_nil, Nat.reduceAdd, Nat.reduceSub, Nat.reduceMul, Nat.reduceBEq, List.map_cons, List.map_nil, List.headD_cons, List.getElem?_cons_zero, List.getElem?_cons_succ, List.set_cons_zero, List.set_cons_succ]
      simp (disch := omega) only [nI_add, n_and, n_or, n_xor, n_i31, nI_leI, nI_ltI, n_e0, n_eq, n_m1e, n_l0, n_g0, n_p0, n_q0, n_cl, n_in, n_sub, n_shr, n_shl, n_div, bI_0, n_01, n_11, bI_or, not_false_eq_true, forall_const, not_true_eq_false, false_imp_iff, true_imp_iff]
      refine br_f (by omega) ?_
      refine Ev_use (ev_hasBottle _ m r p h hm hr (by omega)) ?_
      dsimp only [wpI, xop, xcall, xli, xlj, xlf, xld, xla, xlg, xst, xst2, xc1, pI, pJ, pF, pD, pR, pA, p1, p0, xpop, xpush, xsm, xhas, xif, xic, xsw, xai, xal, xhi, xhv, xrf, xret, xrtl, xrtf, xrtd, xrta, xrtv, xfit, xnew, cond_true, cond_false, f40, f41, f42, f43, List.length_cons, List.length_nil, Nat.reduceAdd, Nat.reduceSub, Nat.reduceMul, Nat.reduceBEq, List.map_cons, List.map_nil, List.headD_cons, List.getElem?_cons_zero, List.getElem?_cons_succ, List.set_cons_zero, List.set_cons_succ]
      simp (disch := omega) only [nI_add, n_and, n_or, n_xor, n_i31, nI_leI, nI_ltI, n_e0, n_eq, n_m1e, n_l0, n_g0, n_p0, n_q0, n_cl, n_in, n_sub, n_shr, n_shl, n_div, bI_0, n_01, n_11, bI_or, not_false_eq_true, forall_const, not_true_eq_false, false_imp_iff, true_imp_iff]
      unfold mirP at hk
      refine ⟨fun z => ?_, fun z => ?_⟩
      · simp only [z, Bool.false_eq_true, if_false] at hk
        refine hK 3 _ _ _ _ _ _ _ _ rfl ?_
        dsimp only [k_P_mirrored_3, wpI, xop, xcall, xli, xlj, xlf, xld, xla, xlg, xst, xst2, xc1, pI, pJ, pF, pD, pR, pA, p1, p0, xpop, xpush, xsm, xhas, xif, xic, xsw, xai, xal, xhi, xhv, xrf, xret, xrtl, xrtf, xrtd, xrta, xrtv, xfit, xnew, cond_true, cond_false, f40, f41, f42, f43, List.length_cons, List.length_nil, Nat.reduceAdd, Nat.reduceSub, Nat.reduceMul, Nat.reduceBEq, List.map_cons, List.map_nil, List.headD_cons, List.getElem?_cons_zero, List.getElem?_cons_succ, List.set_cons_zero, List.set_cons_succ]
        simp (disch := omega) only [nI_add, n_and, n_or, n_xor, n_i31, nI_leI, nI_ltI, n_e0, n_eq, n_m1e, n_l0, n_g0, n_p0, n_q0, n_cl, n_in, n_sub, n_shr, n_shl, n_div, bI_0, n_01, n_11, bI_or, not_false_eq_true, forall_const, not_true_eq_false, false_imp_iff, true_imp_iff]
        exact ih (p + 1) r a hr (by omega) hk
      · simp only [b_nf z, if_true] at hk
        refine Ev_use (ev_bit _ r (4 - r - p) h hr (by omega)) ?_
        dsimp only [wpI, xop, xcall, xli, xlj, xlf, xld, xla, xlg, xst, xst2, xc1, pI, pJ, pF, pD, pR, pA, p1, p0, xpop, xpush, xsm, xhas, xif, xic, xsw, xai, xal, xhi, xhv, xrf, xret, xrtl, xrtf, xrtd, xrta, xrtv, xfit, xnew, cond_true, cond_false, f40, f41, f42, f43, List.length_cons, List.length_nil, Nat.reduceAdd, Nat.reduceSub, Nat.reduceMul, Nat.reduceBEq, List.map_cons, List.map_nil, List.headD_cons, List.getElem?_cons_zero, List.getElem?_cons_succ, List.set_cons_zero, List.set_cons_succ]
        simp (disch := omega) only [nI_add, n_and, n_or, n_xor, n_i31, nI_leI, nI_ltI, n_e0, n_eq, n_m1e, n_l0, n_g0, n_p0, n_q0, n_cl, n_in, n_sub, n_shr, n_shl, n_div, bI_0, n_01, n_11, bI_or, not_false_eq_true, forall_const, not_true_eq_false, false_imp_iff, true_imp_iff]
        refine hK 3 _ _ _ _ _ _ _ _ rfl ?_
        dsimp only [k_P_mirrored_3, wpI, xop, xcall, xli, xlj, xlf, xld, xla, xlg, xst, xst2, xc1, pI, pJ, pF, pD, pR, pA, p1, p0, xpop, xpush, xsm, xhas, xif, xic, xsw, xai, xal, xhi, xhv, xrf, xret, xrtl, xrtf, xrtd, xrta, xrtv, xfit, xnew, cond_true, cond_false, f40, f41, f42, f43, List.length_cons, List.length_nil, Nat.reduceAdd, Nat.reduceSub, Nat.reduceMul, Nat.reduceBEq, List.map_cons, List.map_nil, List.headD_cons, List.getElem?_cons_zero, List.getElem?_cons_succ, List.set_cons_zero, List.set_cons_succ]
        simp (disch := omega) only [nI_add, n_and, n_or, n_xor, n_i31, nI_leI, nI_ltI, n_e0, n_eq, n_m1e, n_l0, n_g0, n_p0, n_q0, n_cl, n_in, n_sub, n_shr, n_shl, n_div, bI_0, n_01, n_11, bI_or, not_false_eq_true, forall_const, not_true_eq_false, false_imp_iff, true_imp_iff]
        exact ih (p + 1) r _ hr (by omega) hk
  have loop1 : ∀ (j r a : Nat) (L3 : Option Value), r + j = 5 → Q (some (.int (nI (mirR m j r a)))) h → K 1 [some (.int (nI m)), some (.int (nI a)), some (.int (nI r)), L3] [] h 0 0 := by
    intro j
    induction j with
    | zero =>
      intro r a L3 hr hq
      obtain rfl : r = 5 := by omega
      refine hK 1 _ _ _ _ _ _ _ _ rfl ?_
      dsimp only [k_P_mirrored_1, wpI, xop, xcall, xli, xlj, xlf, xld, xla, xlg, xst, xst2, xc1, pI, pJ, pF, pD, pR, pA, p1, p0, xpop, xpush, xsm, xhas, xif, xic, xsw, xai, xal, xhi, xhv, xrf, xret, xrtl, xrtf, xrtd, xrta, xrtv, xfit, xnew, cond_true, cond_false, f40, f41, f42, f43, List.length_cons, List.length_nil, Nat.reduceAdd, Nat.reduceSub, Nat.reduceMul, Nat.reduceBEq, List.map_cons, List.map_nil, List.headD_cons, List.getElem?_cons_zero, List.getElem?_cons_succ, List.set_cons_zero, List.set_cons_succ]
      refine br_t (by decide) ?_
      refine hK 5 _ _ _ _ _ _ _ _ rfl ?_
      dsimp only [k_P_mirrored_5, wpI, xop, xcall, xli, xlj, xlf, xld, xla, xlg, xst, xst2, xc1, pI, pJ, pF, pD, pR, pA, p1, p0, xpop, xpush, xsm, xhas, xif, xic, xsw, xai, xal, xhi, xhv, xrf, xret, xrtl, xrtf, xrtd, xrta, xrtv, xfit, xnew, cond_true, cond_false, f40, f41, f42, f43, List.length_cons, List.length_nil, Nat.reduceAdd, Nat.reduceSub, Nat.reduceMul, Nat.reduceBEq, List.map_cons, List.map_nil, List.headD_cons, List.getElem?_cons_zero, List.getElem?_cons_succ, List.set_cons_zero, List.set_cons_succ]
      exact ⟨Nat.le_refl _, Nat.le_refl _, hq⟩
    | succ j ih =>
      intro r a L3 hr hq
      unfold mirR at hq
      refine hK 1 _ _ _ _ _ _ _ _ rfl ?_
      dsimp only [k_P_mirrored_1, wpI, xop, xcall, xli, xlj, xlf, xld, xla, xlg, xst, xst2, xc1, pI, pJ, pF, pD, pR, pA, p1, p0, xpop, xpush, xsm, xhas, xif, xic, xsw, xai, xal, xhi, xhv, xrf, xret, xrtl, xrtf, xrtd, xrta, xrtv, xfit, xnew, cond_true, cond_false, f40, f41, f42, f43, List.length_cons, List.length_nil, Nat.reduceAdd, Nat.reduceSub, Nat.reduceMul, Nat.reduceBEq, List.map_cons, List.map_nil, List.headD_cons, List.getElem?_cons_zero, List.getElem?_cons_succ, List.set_cons_zero, List.set_cons_succ]
      simp (disch := omega) only [nI_add, n_and, n_or, n_xor, n_i31, nI_leI, nI_ltI, n_e0, n_eq, n_m1e, n_l0, n_g0, n_p0, n_q0, n_cl, n_in, n_sub, n_shr, n_shl, n_div, bI_0, n_01, n_11, bI_or, not_false_eq_true, forall_const, not_true_eq_false, false_imp_iff, true_imp_iff]
      refine br_f (by omega) ?_
      refine loop2 (5 - r) 0 r a (by omega) (by omega) fun L3 => ?_
      refine hK 4 _ _ _ _ _ _ _ _ rfl ?_
      dsimp only [k_P_mirrored_4, wpI, xop, xcall, xli, xlj, xlf, xld, xla, xlg, xst, xst2, xc1, pI, pJ, pF, pD, pR, pA, p1, p0, xpop, xpush, xsm, xhas, xif, xic, xsw, xai, xal, xhi, xhv, xrf, xret, xrtl, xrtf, xrtd, xrta, xrtv, xfit, xnew, cond_true, cond_false, f40, f41, f42, f43, List.length_cons, List.length_nil, Nat.reduceAdd, Nat.reduceSub, Nat.reduceMul, Nat.reduceBEq, List.map_cons, List.map_nil, List.headD_cons, List.getElem?_cons_zero, List.getElem?_cons_succ, List.set_cons_zero, List.set_cons_succ]
      simp (disch := omega) only [nI_add, n_and, n_or, n_xor, n_i31, nI_leI, nI_ltI, n_e0, n_eq, n_m1e, n_l0, n_g0, n_p0, n_q0, n_cl, n_in, n_sub, n_shr, n_shl, n_div, bI_0, n_01, n_11, bI_or, not_false_eq_true, forall_const, not_true_eq_false, false_imp_iff, true_imp_iff]
      exact ih (r + 1) _ _ (by omega) hq
  refine hK 0 _ _ _ _ _ _ _ _ rfl ?_
  dsimp only [k_P_mirrored_0, wpI, xop, xcall, xli, xlj, xlf, xld, xla, xlg, xst, xst2, xc1, pI, pJ, pF, pD, pR, pA, p1, p0, xpop, xpush, xsm, xhas, xif, xic, xsw, xai, xal, xhi, xhv, xrf, xret, xrtl, xrtf, xrtd, xrta, xrtv, xfit, xnew, cond_true, cond_false, f40, f41, f42, f43, List.length_cons, List.length_nil, Nat.reduceAdd, Nat.reduceSub, Nat.reduceMul, Nat.reduceBEq, List.map_cons, List.map_nil, List.headD_cons, List.getElem?_cons_zero, List.getElem?_cons_succ, List.set_cons_zero, List.set_cons_succ]
  exact loop1 5 0 0 _ rfl (hQ _ _ ⟨rfl, rfl⟩)
/-! all shapes -/
theorem xhi_of {h : xH} {a t : Nat} {l : List Int32} {v : List Value} {k : List Int32 → Prop} (e : h[a]? = some (t, l, v)) (hk : k l) : xhi h a t k := by
  unfold xhi
  rw [e]
  simp only [beq_self_eq_true, cond_true]
  exact hk
theorem xhv_of {h : xH} {a t : Nat} {l : List Int32} {v : List Value} {k : List Value → Prop} (e : h[a]? = some (t, l, v)) (hk : k v) : xhv h a t k := by
  unfold xhv
  rw [e]
  simp only [beq_self_eq_true, cond_true]
  exact hk
theorem xai_of {sc : Option (List Int32)} {h : xH} {a : Nat} {l : List Int32} {v : List Value} {k : List Int32 → Prop} (ha : a < 1000) (e : h[a]? = some (0, l, v)) (hk : k l) : xai sc h a k := by
  unfold xai
  rw [beq_eq_false_iff_ne.mpr (show a ≠ 1000 by omega), beq_eq_false_iff_ne.mpr (show a ≠ 1001 by omega)]
  exact xhi_of e hk
theorem xai_r {sc : Option (List Int32)} {h : xH} {k : List Int32 → Prop} (hk : k [0, 5, 9, 12, 14]) : xai sc h 1000 k := hk
theorem xal_of {sc : Option (List Int32)} {h : xH} {a : Nat} {l : List Int32} {v : List Value} {k : Nat → Prop} (ha : a < 1000) (e : h[a]? = some (0, l, v)) (hk : k l.length) : xal sc h a k := by
  unfold xal
  rw [beq_eq_false_iff_ne.mpr (show a ≠ 1001 by omega), e]
  exact hk
def carN (k ab : Nat) : Nat := if k = 4 then 0 else (ab >>> rsN (k + 1)) &&& ((1 <<< (5 - (k + 1))) - 1)
def needN (k ab : Nat) : Nat := carN k ab ||| carN k ab <<< 1
def addN : Nat → Nat → Nat × List Nat → Nat × List Nat
  | 0, ab, s => (s.1 + 1, s.2.set s.1 ab)
  | k + 1, ab, s => (List.range' 0 (1 <<< (5 - k))).foldl (fun s b => if b &&& needN k ab = needN k ab then addN k (ab ||| b <<< rsN k) s else s) s
def addL (k ab : Nat) (s : Nat × List Nat) (l : List Nat) : Nat × List Nat := l.foldl (fun s b => if b &&& needN k ab = needN k ab then addN k (ab ||| b <<< rsN k) s else s) s
theorem addN_s (k ab : Nat) (s : Nat × List Nat) : addN (k + 1) ab s = addL k ab s (List.range' 0 (1 <<< (5 - k))) := rfl
theorem addL_c (k ab : Nat) (s : Nat × List Nat) (b : Nat) (l : List Nat) : addL k ab s (b :: l) = addL k ab (if b &&& needN k ab = needN k ab then addN k (ab ||| b <<< rsN k) s else s) l := rfl
theorem addN_le : ∀ (k ab : Nat) (s : Nat × List Nat), (addN k ab s).1 ≤ s.1 + 32 ^ k ∧ (addN k ab s).2.length = s.2.length
  | 0, _, _ => ⟨Nat.le_refl _, List.length_set⟩
  | k + 1, ab, s => by
    have key : ∀ (l : List Nat) (s : Nat × List Nat), (addL k ab s l).1 ≤ s.1 + l.length * 32 ^ k ∧ (addL k ab s l).2.length = s.2.length := by
      intro l
      induction l with
      | nil => intro s; exact ⟨by simp [addL], rfl⟩
      | cons b l ih =>
        intro s
        rw [addL_c]
        split
        · have h1 := addN_le k (ab ||| b <<< rsN k) s
          have h2 := ih (addN k (ab ||| b <<< rsN k) s)
          rw [List.length_cons, Nat.add_mul]
          exact ⟨by omega, h2.2.trans h1.2⟩
        · have h2 := ih s
          rw [List.length_cons, Nat.add_mul]
          exact ⟨by omega, h2.2⟩
    have h := key (List.range' 0 (1 <<< (5 - k))) s
    rw [addN_s]
    refine ⟨Nat.le_trans h.1 (Nat.add_le_add_left ?_ _), h.2⟩
    rw [List.length_range', Nat.pow_succ, Nat.mul_comm]
    refine Nat.mul_le_mul_left _ ?_
    rw [Nat.shiftLeft_eq, Nat.one_mul]
    exact Nat.pow_le_pow_right (n := 2) (by decide) (show 5 - k ≤ 5 by omega)
def rowI : Nat → Int32
  | 0 => -1
  | k + 1 => nI k
theorem rowI_p (k : Nat) : nI k - nI 1 = rowI k := by
  cases k with
  | zero => rfl
  | succ k => exact n_sub (by omega)
theorem row_lt {k b : Nat} (hk : k < 5) (hb : b < 1 <<< (5 - k)) : b <<< rsN k < 32768 := by
  have key : ∀ k, k < 5 → ∀ b, b < 32 → b < 1 <<< (5 - k) → b <<< rsN k < 32768 := by decide +kernel
  refine key k hk b (Nat.lt_of_lt_of_le hb ?_) hb
  rw [Nat.shiftLeft_eq, Nat.one_mul]
  exact Nat.pow_le_pow_right (n := 2) (by decide) (show 5 - k ≤ 5 by omega)
theorem car_lt (k ab : Nat) : carN k ab < 32 := by
  unfold carN
  split
  · decide
  · refine Nat.lt_of_le_of_lt Nat.and_le_right ?_
    have : 1 <<< (5 - (k + 1)) ≤ 2 ^ 5 := by
      rw [Nat.shiftLeft_eq, Nat.one_mul]
      exact Nat.pow_le_pow_right (n := 2) (by decide) (show 5 - (k + 1) ≤ 5 by omega)
    omega
theorem need_lt (k ab : Nat) : needN k ab < 64 := by
  have h := car_lt k ab
  have h2 : carN k ab <<< 1 < 64 := by rw [Nat.shiftLeft_eq]; omega
  exact Nat.or_lt_two_pow (n := 6) (by omega) h2
abbrev hS (h : xH) (a : Nat) (l : List Nat) : xH := h.set a (0, l.map nI, [])
theorem hS_at {h : xH} {a : Nat} (l : List Nat) (ha : a < h.length) : (hS h a l)[a]? = some (0, l.map nI, []) := List.getElem?_set_self ha
set_option maxRecDepth 100000 in
set_option maxHeartbeats 4000000 in
theorem ev_addShapes (h : xH) (a : Nat) (ha : a < h.length) (ha2 : a < 1000) : ∀ (k d ab : Nat) (s : Nat × List Nat), k ≤ 5 → ab < 32768 → s.1 + 32 ^ k < 2 ^ 30 → s.2.length < 2 ^ 30 →
    Ev xT (d + k + 2) N_P_addShapes [.ref a, .int (nI s.1), .int (rowI k), .int (nI ab)] (hS h a s.2) (Rt (some (.int (nI (addN k ab s).1))) (hS h a (addN k ab s).2)) NX := by
  intro k
  induction k with
  | zero =>
    intro d ab s _ hab hs1 hs2
    refine Ev_intro t_P_addShapes (Nat.le_of_ble_eq_true rfl) ?_
    intro Q X hQ hX K hK
    show K 0 [some (.ref a), some (.int (nI s.1)), some (.int (-1)), some (.int (nI ab)), none, none, none, none] [] _ 0 0
    have hq := hQ _ _ ⟨rfl, rfl⟩
    have hat := hS_at s.2 ha
    refine hK 0 _ _ _ _ _ _ _ _ rfl ?_
    dsimp only [k_P_addShapes_0, wpI, xop, xcall, xli, xlj, xlf, xld, xla, xlg, xst, xst2, xc1, pI, pJ, pF, pD, pR, pA, p1, p0, xpop, xpush, xsm, xhas, xif, xic, xsw, xrf, xret, xrtl, xrtf, xrtd, xrta, xrtv, xfit, xnew, cond_true, cond_false, f40, f41, f42, f43, List.length_cons, List.length_nil, Nat.reduceAdd, Nat.reduceSub, Nat.reduceMul, Nat.reduceBEq, List.map_cons, List.map_nil, List.headD_cons, List.getElem?_cons_zero, List.getElem?_cons_succ, List.set_cons_zero, List.set_cons_succ]
    refine br_f (by decide) ?_
    refine xal_of ha2 hat ?_
    rw [List.length_map]
    simp (disch := omega) only [nI_add, n_and, n_or, n_xor, n_i31, nI_leI, nI_ltI, n_e0, n_eq, n_m1e, n_l0, n_g0, n_p0, n_q0, n_cl, n_in, n_sub, n_shr, n_shl, n_div, bI_0, n_01, n_11, bI_or, not_false_eq_true, forall_const, not_true_eq_false, false_imp_iff, true_imp_iff]
    have hs1' : s.1 < 2 ^ 31 := by omega
    refine ⟨fun z => ?_, fun z => ?_⟩
    · refine hK 1 _ _ _ _ _ _ _ _ rfl ?_
      dsimp only [k_P_addShapes_1, wpI, xop, xcall, xli, xlj, xlf, xld, xla, xlg, xst, xst2, xc1, pI, pJ, pF, pD, pR, pA, p1, p0, xpop, xpush, xsm, xhas, xif, xic, xsw, xrf, xret, xrtl, xrtf, xrtd, xrta, xrtv, xfit, xnew, cond_true, cond_false, f40, f41, f42, f43, List.length_cons, List.length_nil, Nat.reduceAdd, Nat.reduceSub, Nat.reduceMul, Nat.reduceBEq, List.map_cons, List.map_nil, List.headD_cons, List.getElem?_cons_zero, List.getElem?_cons_succ, List.set_cons_zero, List.set_cons_succ]
      have e : s.2.set s.1 ab = s.2 := List.set_eq_of_length_le z
      unfold addN at hq
      rw [e] at hq
      simp (disch := omega) only [nI_add, n_and, n_or, n_xor, n_i31, nI_leI, nI_ltI, n_e0, n_eq, n_m1e, n_l0, n_g0, n_p0, n_q0, n_cl, n_in, n_sub, n_shr, n_shl, n_div, bI_0, n_01, n_11, bI_or, not_false_eq_true, forall_const, not_true_eq_false, false_imp_iff, true_imp_iff]
      exact ⟨Nat.le_refl _, Nat.le_refl _, hq⟩
    · refine xhi_of hat ?_
      refine ⟨by rw [List.length_map]; omega, ?_⟩
      refine hK 1 _ _ _ _ _ _ _ _ rfl ?_
      dsimp only [k_P_addShapes_1, wpI, xop, xcall, xli, xlj, xlf, xld, xla, xlg, xst, xst2, xc1, pI, pJ, pF, pD, pR, pA, p1, p0, xpop, xpush, xsm, xhas, xif, xic, xsw, xrf, xret, xrtl, xrtf, xrtd, xrta, xrtv, xfit, xnew, cond_true, cond_false, f40, f41, f42, f43, List.length_cons, List.length_nil, Nat.reduceAdd, Nat.reduceSub, Nat.reduceMul, Nat.reduceBEq, List.map_cons, List.map_nil, List.headD_cons, List.getElem?_cons_zero, List.getElem?_cons_succ, List.set_cons_zero, List.set_cons_succ]
      unfold addN at hq
      rw [List.set_set, ← List.map_set]
      simp (disch := omega) only [nI_add, n_and, n_or, n_xor, n_i31, nI_leI, nI_ltI, n_e0, n_eq, n_m1e, n_l0, n_g0, n_p0, n_q0, n_cl, n_in, n_sub, n_shr, n_shl, n_div, bI_0, n_01, n_11, bI_or, not_false_eq_true, forall_const, not_true_eq_false, false_imp_iff, true_imp_iff]
      exact ⟨Nat.le_refl _, Nat.le_refl _, hq⟩
  | succ k ih =>
    intro d ab s hk hab hs1 hs2
    refine Ev_intro t_P_addShapes (Nat.le_of_ble_eq_true rfl) ?_
    intro Q X hQ hX K hK
    show K 0 [some (.ref a), some (.int (nI s.1)), some (.int (nI k)), some (.int (nI ab)), none, none, none, none] [] _ 0 0
    have hq := hQ _ _ ⟨rfl, rfl⟩
    rw [addN_s] at hq
    have hc := car_lt k ab
    have hn := need_lt k ab
    have h2 : carN k ab <<< 1 < 64 := by rw [Nat.shiftLeft_eq]; omega
    have hw : 1 <<< (5 - k) ≤ 32 := by
      rw [Nat.shiftLeft_eq, Nat.one_mul]
      exact Nat.pow_le_pow_right (n := 2) (by decide) (show 5 - k ≤ 5 by omega)
    have hw2 : 1 <<< (5 - k) < 2 ^ 32 := by omega
    have loop : ∀ (j i : Nat) (s : Nat × List Nat), i + j = 1 <<< (5 - k) → s.1 + j * 32 ^ k < 2 ^ 30 → s.2.length < 2 ^ 30 → ∀ s0, Q (some (.int (nI (addL k ab s (List.range' i j)).1))) (hS h a (addL k ab s (List.range' i j)).2) →
        K 5 [some (.ref a), some (.int (nI s0)), some (.int (nI k)), some (.int (nI ab)), some (.int (nI (carN k ab))), some (.int (nI (needN k ab))), some (.int (nI s.1)), some (.int (nI i))] [] (hS h a s.2) 0 0 := by
      intro j
      induction j with
      | zero =>
        intro i s hi hs1 hs2 s0 hq
        refine hK 5 _ _ _ _ _ _ _ _ rfl ?_
        dsimp only [k_P_addShapes_5, wpI, xop, xcall, xli, xlj, xlf, xld, xla, xlg, xst, xst2, xc1, pI, pJ, pF, pD, pR, pA, p1, p0, xpop, xpush, xsm, xhas, xif, xic, xsw, xrf, xret, xrtl, xrtf, xrtd, xrta, xrtv, xfit, xnew, cond_true, cond_false, f40, f41, f42, f43, List.length_cons, List.length_nil, Nat.reduceAdd, Nat.reduceSub, Nat.reduceMul, Nat.reduceBEq, List.map_cons, List.map_nil, List.headD_cons, List.getElem?_cons_zero, List.getElem?_cons_succ, List.set_cons_zero, List.set_cons_succ]
        simp (disch := omega) only [nI_add, n_and, n_or, n_xor, n_i31, nI_leI, nI_ltI, n_e0, n_eq, n_m1e, n_l0, n_g0, n_p0, n_q0, n_cl, n_in, n_sub, n_shr, n_shl, n_div, bI_0, n_01, n_11, bI_or, not_false_eq_true, forall_const, not_true_eq_false, false_imp_iff, true_imp_iff]
        refine br_t (by omega) ?_
        refine hK 7 _ _ _ _ _ _ _ _ rfl ?_
        dsimp only [k_P_addShapes_7, wpI, xop, xcall, xli, xlj, xlf, xld, xla, xlg, xst, xst2, xc1, pI, pJ, pF, pD, pR, pA, p1, p0, xpop, xpush, xsm, xhas, xif, xic, xsw, xrf, xret, xrtl, xrtf, xrtd, xrta, xrtv, xfit, xnew, cond_true, cond_false, f40, f41, f42, f43, List.length_cons, List.length_nil, Nat.reduceAdd, Nat.reduceSub, Nat.reduceMul, Nat.reduceBEq, List.map_cons, List.map_nil, List.headD_cons, List.getElem?_cons_zero, List.getElem?_cons_succ, List.set_cons_zero, List.set_cons_succ]
        exact ⟨Nat.le_refl _, Nat.le_refl _, hq⟩
      | succ j ih2 =>
        intro i s hi hs1 hs2 s0 hq
        rw [List.range'_succ, addL_c] at hq
        rw [Nat.add_mul] at hs1
        have hb := row_lt (k := k) (b := i) (by omega) (by omega)
        have hand : i &&& needN k ab < 64 := Nat.lt_of_le_of_lt Nat.and_le_right hn
        have hr := rs_lt k
        refine hK 5 _ _ _ _ _ _ _ _ rfl ?_
        dsimp only [k_P_addShapes_5, wpI, xop, xcall, xli, xlj, xlf, xld, xla, xlg, xst, xst2, xc1, pI, pJ, pF, pD, pR, pA, p1, p0, xpop, xpush, xsm, xhas, xif, xic, xsw, xrf, xret, xrtl, xrtf, xrtd, xrta, xrtv, xfit, xnew, cond_true, cond_false, f40, f41, f42, f43, List.length_cons, List.length_nil, Nat.reduceAdd, Nat.reduceSub, Nat.reduceMul, Nat.reduceBEq, List.map_cons, List.map_nil, List.headD_cons, List.getElem?_cons_zero, List.getElem?_cons_succ, List.set_cons_zero, List.set_cons_succ]
        simp (disch := omega) only [nI_add, n_and, n_or, n_xor, n_i31, nI_leI, nI_ltI, n_e0, n_eq, n_m1e, n_l0, n_g0, n_p0, n_q0, n_cl, n_in, n_sub, n_shr, n_shl, n_div, bI_0, n_01, n_11, bI_or, not_false_eq_true, forall_const, not_true_eq_false, false_imp_iff, true_imp_iff]
        refine br_f (by omega) ?_
        refine ⟨fun z => ?_, fun z => ?_⟩
        · rw [if_neg z] at hq
          refine hK 6 _ _ _ _ _ _ _ _ rfl ?_
          dsimp only [k_P_addShapes_6, wpI, xop, xcall, xli, xlj, xlf, xld, xla, xlg, xst, xst2, xc1, pI, pJ, pF, pD, pR, pA, p1, p0, xpop, xpush, xsm, xhas, xif, xic, xsw, xrf, xret, xrtl, xrtf, xrtd, xrta, xrtv, xfit, xnew, cond_true, cond_false, f40, f41, f42, f43, List.length_cons, List.length_nil, Nat.reduceAdd, Nat.reduceSub, Nat.reduceMul, Nat.reduceBEq, List.map_cons, List.map_nil, List.headD_cons, List.getElem?_cons_zero, List.getElem?_cons_succ, List.set_cons_zero, List.set_cons_succ]
          simp (disch := omega) only [nI_add, n_and, n_or, n_xor, n_i31, nI_leI, nI_ltI, n_e0, n_eq, n_m1e, n_l0, n_g0, n_p0, n_q0, n_cl, n_in, n_sub, n_shr, n_shl, n_div, bI_0, n_01, n_11, bI_or, not_false_eq_true, forall_const, not_true_eq_false, false_imp_iff, true_imp_iff]
          exact ih2 (i + 1) s (by omega) (by omega) hs2 s0 hq
        · rw [if_pos z] at hq
          refine xai_r ?_
          dsimp only [wpI, xop, xcall, xli, xlj, xlf, xld, xla, xlg, xst, xst2, xc1, pI, pJ, pF, pD, pR, pA, p1, p0, xpop, xpush, xsm, xhas, xif, xic, xsw, xrf, xret, xrtl, xrtf, xrtd, xrta, xrtv, xfit, xnew, cond_true, cond_false, f40, f41, f42, f43, List.length_cons, List.length_nil, Nat.reduceAdd, Nat.reduceSub, Nat.reduceMul, Nat.reduceBEq, List.map_cons, List.map_nil, List.headD_cons, List.getElem?_cons_zero, List.getElem?_cons_succ, List.set_cons_zero, List.set_cons_succ]
          rw [rowI_p]
          simp (disch := omega) only [nI_add, n_and, n_or, n_xor, n_i31, nI_leI, nI_ltI, n_e0, n_eq, n_m1e, n_l0, n_g0, n_p0, n_q0, n_cl, n_in, n_sub, n_shr, n_shl, n_div, bI_0, n_01, n_11, bI_or, not_false_eq_true, forall_const, not_true_eq_false, false_imp_iff, true_imp_iff, rs_at]
          refine ⟨by omega, ?_⟩
          have hle := addN_le k (ab ||| i <<< rsN k) s
          refine Ev_use (ih d (ab ||| i <<< rsN k) s (by omega) (Nat.or_lt_two_pow (n := 15) hab hb) (by omega) hs2) ?_
          dsimp only [wpI, xop, xcall, xli, xlj, xlf, xld, xla, xlg, xst, xst2, xc1, pI, pJ, pF, pD, pR, pA, p1, p0, xpop, xpush, xsm, xhas, xif, xic, xsw, xrf, xret, xrtl, xrtf, xrtd, xrta, xrtv, xfit, xnew, cond_true, cond_false, f40, f41, f42, f43, List.length_cons, List.length_nil, Nat.reduceAdd, Nat.reduceSub, Nat.reduceMul, Nat.reduceBEq, List.map_cons, List.map_nil, List.headD_cons, List.getElem?_cons_zero, List.getElem?_cons_succ, List.set_cons_zero, List.set_cons_succ]
          refine hK 6 _ _ _ _ _ _ _ _ rfl ?_
          dsimp only [k_P_addShapes_6, wpI, xop, xcall, xli, xlj, xlf, xld, xla, xlg, xst, xst2, xc1, pI, pJ, pF, pD, pR, pA, p1, p0, xpop, xpush, xsm, xhas, xif, xic, xsw, xrf, xret, xrtl, xrtf, xrtd, xrta, xrtv, xfit, xnew, cond_true, cond_false, f40, f41, f42, f43, List.length_cons, List.length_nil, Nat.reduceAdd, Nat.reduceSub, Nat.reduceMul, Nat.reduceBEq, List.map_cons, List.map_nil, List.headD_cons, List.getElem?_cons_zero, List.getElem?_cons_succ, List.set_cons_zero, List.set_cons_succ]
          simp (disch := omega) only [nI_add, n_and, n_or, n_xor, n_i31, nI_leI, nI_ltI, n_e0, n_eq, n_m1e, n_l0, n_g0, n_p0, n_q0, n_cl, n_in, n_sub, n_shr, n_shl, n_div, bI_0, n_01, n_11, bI_or, not_false_eq_true, forall_const, not_true_eq_false, false_imp_iff, true_imp_iff]
          exact ih2 (i + 1) _ (by omega) (by omega) (by rw [hle.2]; exact hs2) s0 hq
    have go4 : K 4 [some (.ref a), some (.int (nI s.1)), some (.int (nI k)), some (.int (nI ab)), none, none, none, none] [.int (nI (carN k ab))] (hS h a s.2) 0 0 := by
      refine hK 4 _ _ _ _ _ _ _ _ rfl ?_
      dsimp only [k_P_addShapes_4, wpI, xop, xcall, xli, xlj, xlf, xld, xla, xlg, xst, xst2, xc1, pI, pJ, pF, pD, pR, pA, p1, p0, xpop, xpush, xsm, xhas, xif, xic, xsw, xrf, xret, xrtl, xrtf, xrtd, xrta, xrtv, xfit, xnew, cond_true, cond_false, f40, f41, f42, f43, List.length_cons, List.length_nil, Nat.reduceAdd, Nat.reduceSub, Nat.reduceMul, Nat.reduceBEq, List.map_cons, List.map_nil, List.headD_cons, List.getElem?_cons_zero, List.getElem?_cons_succ, List.set_cons_zero, List.set_cons_succ]
      simp (disch := omega) only [nI_add, n_and, n_or, n_xor, n_i31, nI_leI, nI_ltI, n_e0, n_eq, n_m1e, n_l0, n_g0, n_p0, n_q0, n_cl, n_in, n_sub, n_shr, n_shl, n_div, bI_0, n_01, n_11, bI_or, not_false_eq_true, forall_const, not_true_eq_false, false_imp_iff, true_imp_iff]
      refine loop (1 <<< (5 - k)) 0 s (by omega) ?_ hs2 s.1 hq
      refine Nat.lt_of_le_of_lt (Nat.add_le_add_left ?_ _) hs1
      rw [Nat.pow_succ, Nat.mul_comm]
      exact Nat.mul_le_mul_left _ hw
    have hr31 : k < 2 ^ 31 := by omega
    refine hK 0 _ _ _ _ _ _ _ _ rfl ?_
    dsimp only [k_P_addShapes_0, wpI, xop, xcall, xli, xlj, xlf, xld, xla, xlg, xst, xst2, xc1, pI, pJ, pF, pD, pR, pA, p1, p0, xpop, xpush, xsm, xhas, xif, xic, xsw, xrf, xret, xrtl, xrtf, xrtd, xrta, xrtv, xfit, xnew, cond_true, cond_false, f40, f41, f42, f43, List.length_cons, List.length_nil, Nat.reduceAdd, Nat.reduceSub, Nat.reduceMul, Nat.reduceBEq, List.map_cons, List.map_nil, List.headD_cons, List.getElem?_cons_zero, List.getElem?_cons_succ, List.set_cons_zero, List.set_cons_succ]
    simp (disch := omega) only [nI_add, n_and, n_or, n_xor, n_i31, nI_leI, nI_ltI, n_e0, n_eq, n_m1e, n_l0, n_g0, n_p0, n_q0, n_cl, n_in, n_sub, n_shr, n_shl, n_div, bI_0, n_01, n_11, bI_or, not_false_eq_true, forall_const, not_true_eq_false, false_imp_iff, true_imp_iff]
    refine ⟨?_, trivial⟩
    refine hK 2 _ _ _ _ _ _ _ _ rfl ?_
    dsimp only [k_P_addShapes_2, wpI, xop, xcall, xli, xlj, xlf, xld, xla, xlg, xst, xst2, xc1, pI, pJ, pF, pD, pR, pA, p1, p0, xpop, xpush, xsm, xhas, xif, xic, xsw, xrf, xret, xrtl, xrtf, xrtd, xrta, xrtv, xfit, xnew, cond_true, cond_false, f40, f41, f42, f43, List.length_cons, List.length_nil, Nat.reduceAdd, Nat.reduceSub, Nat.reduceMul, Nat.reduceBEq, List.map_cons, List.map_nil, List.headD_cons, List.getElem?_cons_zero, List.getElem?_cons_succ, List.set_cons_zero, List.set_cons_succ]
    simp (disch := omega) only [nI_add, n_and, n_or, n_xor, n_i31, nI_leI, nI_ltI, n_e0, n_eq, n_m1e, n_l0, n_g0, n_p0, n_q0, n_cl, n_in, n_sub, n_shr, n_shl, n_div, bI_0, n_01, n_11, bI_or, not_false_eq_true, forall_const, not_true_eq_false, false_imp_iff, true_imp_iff]
    refine ⟨fun z => ?_, fun z => ?_⟩
    · refine hK 3 _ _ _ _ _ _ _ _ rfl ?_
      dsimp only [k_P_addShapes_3, wpI, xop, xcall, xli, xlj, xlf, xld, xla, xlg, xst, xst2, xc1, pI, pJ, pF, pD, pR, pA, p1, p0, xpop, xpush, xsm, xhas, xif, xic, xsw, xrf, xret, xrtl, xrtf, xrtd, xrta, xrtv, xfit, xnew, cond_true, cond_false, f40, f41, f42, f43, List.length_cons, List.length_nil, Nat.reduceAdd, Nat.reduceSub, Nat.reduceMul, Nat.reduceBEq, List.map_cons, List.map_nil, List.headD_cons, List.getElem?_cons_zero, List.getElem?_cons_succ, List.set_cons_zero, List.set_cons_succ]
      simp (disch := omega) only [nI_add, n_and, n_or, n_xor, n_i31, nI_leI, nI_ltI, n_e0, n_eq, n_m1e, n_l0, n_g0, n_p0, n_q0, n_cl, n_in, n_sub, n_shr, n_shl, n_div, bI_0, n_01, n_11, bI_or, not_false_eq_true, forall_const, not_true_eq_false, false_imp_iff, true_imp_iff]
      refine Ev_use (ev_bitsOf _ ab (k + 1) _ hab (by omega)) ?_
      dsimp only [wpI, xop, xcall, xli, xlj, xlf, xld, xla, xlg, xst, xst2, xc1, pI, pJ, pF, pD, pR, pA, p1, p0, xpop, xpush, xsm, xhas, xif, xic, xsw, xrf, xret, xrtl, xrtf, xrtd, xrta, xrtv, xfit, xnew, cond_true, cond_false, f40, f41, f42, f43, List.length_cons, List.length_nil, Nat.reduceAdd, Nat.reduceSub, Nat.reduceMul, Nat.reduceBEq, List.map_cons, List.map_nil, List.headD_cons, List.getElem?_cons_zero, List.getElem?_cons_succ, List.set_cons_zero, List.set_cons_succ]
      have e : carN k ab = (ab >>> rsN (k + 1)) &&& ((1 <<< (5 - (k + 1))) - 1) := by unfold carN; rw [if_neg z]
      rw [← e]
      exact go4
    · have e : carN k ab = 0 := by unfold carN; rw [if_pos z]
      rw [e] at go4
      exact go4
def shapesN : List Nat := (addN 5 0 (0, List.replicate 132 0)).2
theorem shapes_len : shapesN.length = 132 := (addN_le 5 0 _).2.trans (by simp)
set_option maxRecDepth 100000 in
set_option maxHeartbeats 4000000 in
theorem ev_allShapes (d : Nat) (h : xH) (hh : h.length < 1000) (hw : xwH h.length h) : Ev xT (d + 8) N_P_allShapes [] h (Rt (some (.ref h.length)) (h ++ [(0, shapesN.map nI, [])])) NX := by
  refine Ev_intro t_P_allShapes (Nat.le_of_ble_eq_true rfl) ?_
  intro Q X hQ hX K hK
  show K 0 [none] [] _ 0 0
  have hq := hQ _ _ ⟨rfl, rfl⟩
  have e0 : hS (h ++ [(0, List.replicate 132 0, [])]) h.length (List.replicate 132 0) = h ++ [(0, List.replicate 132 0, [])] := by
    unfold hS
    rw [List.set_append_right _ _ (Nat.le_refl _), Nat.sub_self]
    rfl
  have e1 : hS (h ++ [(0, List.replicate 132 0, [])]) h.length shapesN = h ++ [(0, shapesN.map nI, [])] := by
    unfold hS
    rw [List.set_append_right _ _ (Nat.le_refl _), Nat.sub_self]
    rfl
  have key := ev_addShapes (h ++ [(0, List.replicate 132 0, [])]) h.length (by simp) hh 5 d 0 (0, List.replicate 132 0) (by decide) (by decide) (by decide) (by simp)
  rw [e0] at key
  refine hK 0 _ _ _ _ _ _ _ _ rfl ?_
  dsimp only [k_P_allShapes_0, wpI, xop, xcall, xli, xlj, xlf, xld, xla, xlg, xst, xst2, xc1, pI, pJ, pF, pD, pR, pA, p1, p0, xpop, xpush, xsm, xhas, xif, xic, xsw, xrf, xret, xrtl, xrtf, xrtd, xrta, xrtv, xfit, xnew, cond_true, cond_false, f40, f41, f42, f43, List.length_cons, List.length_nil, Nat.reduceAdd, Nat.reduceSub, Nat.reduceMul, Nat.reduceBEq, List.map_cons, List.map_nil, List.headD_cons, List.getElem?_cons_zero, List.getElem?_cons_succ, List.set_cons_zero, List.set_cons_succ]
  refine ⟨by decide, by decide, rfl, by decide, by decide, hh, trivial, trivial, hw, ?_⟩
  refine Ev_use key ?_
  dsimp only [wpI, xop, xcall, xli, xlj, xlf, xld, xla, xlg, xst, xst2, xc1, pI, pJ, pF, pD, pR, pA, p1, p0, xpop, xpush, xsm, xhas, xif, xic, xsw, xrf, xret, xrtl, xrtf, xrtd, xrta, xrtv, xfit, xnew, cond_true, cond_false, f40, f41, f42, f43, List.length_cons, List.length_nil, Nat.reduceAdd, Nat.reduceSub, Nat.reduceMul, Nat.reduceBEq, List.map_cons, List.map_nil, List.headD_cons, List.getElem?_cons_zero, List.getElem?_cons_succ, List.set_cons_zero, List.set_cons_succ]
  have e2 : (addN 5 0 (0, List.replicate 132 0)).2 = shapesN := rfl
  rw [e2, e1]
  exact ⟨by decide, by decide, hq⟩
end
section
/-! ===== Play: where a shape stands ===== -/
theorem n_gm1 {a : Nat} (h : a < 2 ^ 31) : -1 < nI a := Int32.lt_of_lt_of_le (show (-1 : Int32) < 0 by decide) (nI_pos' h)
theorem rowI_lt {a k : Nat} (ha : a < 2 ^ 31) (hk : k < 2 ^ 31) : rowI k < nI a ↔ k ≤ a := by
  cases k with
  | zero => exact ⟨fun _ => Nat.zero_le _, fun _ => n_gm1 ha⟩
  | succ k => exact nI_ltI (by omega) ha
theorem rowI_pos {k : Nat} (h : 0 < k) : rowI k = nI (k - 1) := by
  cases k with
  | zero => exact absurd h (by decide)
  | succ k => rfl
def gS (i : Nat) : Nat := shapesN.getD i 0
theorem shp_at {i : Nat} (h : i < 132) : (shapesN.map nI).getD i 0 = nI (gS i) := by
  unfold gS
  rw [List.getD_eq_getElem?_getD, List.getElem?_map, List.getD_eq_getElem?_getD, List.getElem?_eq_getElem (by rw [shapes_len]; exact h)]
  rfl
theorem gS_lt (i : Nat) : gS i < 32768 := by
  have key : shapesN.all (fun x => Nat.blt x 32768) = true := by decide +kernel
  unfold gS
  rw [List.getD_eq_getElem?_getD]
  cases e : shapesN[i]? with
  | none => decide
  | some x => exact Nat.le_of_ble_eq_true (List.all_eq_true.mp key x (List.mem_of_getElem? e))
def bsN (m : Nat) : Nat → Nat → Nat → Option Nat
  | 0, _, _ => none
  | f + 1, lo, hi => if hi ≤ lo then none else if gS ((lo + (hi - 1)) / 2) = m then some ((lo + (hi - 1)) / 2) else
    if gS ((lo + (hi - 1)) / 2) < m then bsN m f ((lo + (hi - 1)) / 2 + 1) hi else bsN m f lo ((lo + (hi - 1)) / 2)
theorem bsN_lt (m : Nat) : ∀ (f lo hi i : Nat), hi ≤ 132 → bsN m f lo hi = some i → i < 132 ∧ gS i = m
  | 0, _, _, _, _, h => by simp [bsN] at h
  | f + 1, lo, hi, i, hh, h => by
    rw [bsN] at h
    by_cases h1 : hi ≤ lo
    · rw [if_pos h1] at h; simp at h
    · rw [if_neg h1] at h
      by_cases h2 : gS ((lo + (hi - 1)) / 2) = m
      · rw [if_pos h2] at h
        have h := Option.some.inj h
        subst h
        exact ⟨by omega, h2⟩
      · rw [if_neg h2] at h
        by_cases h3 : gS ((lo + (hi - 1)) / 2) < m
        · rw [if_pos h3] at h; exact bsN_lt m f _ _ i hh h
        · rw [if_neg h3] at h; exact bsN_lt m f _ _ i (by omega) h
def slotN (m : Nat) : Option Nat := bsN m 132 0 132
def slotO (t : Nat) : Option Nat → Int32
  | some i => nI (2 * i + t)
  | none => -1
def slotI (t m : Nat) : Int32 := slotO t (slotN m)
set_option maxRecDepth 100000 in
set_option maxHeartbeats 4000000 in
theorem ev_slotOf (d p a t m : Nat) (h : xH) (vs : List Value) (hp : h[p]? = some (5, [], .ref a :: vs)) (ha : h[a]? = some (0, shapesN.map nI, [])) (ha2 : a < 1000) (ht : t < 2) (hm : m < 32768) :
    Ev xT (d + 1) N_L_slotOf [.ref p, .int (nI t), .int (nI m)] h (Rt (some (.int (slotI t m))) h) NX := by
  refine Ev_intro t_L_slotOf (Nat.le_of_ble_eq_true rfl) ?_
  intro Q X hQ hX K hK
  show K 0 [some (.ref p), some (.int (nI t)), some (.int (nI m)), none, none, none, none] [] _ 0 0
  have hq := hQ _ _ ⟨rfl, rfl⟩
  unfold slotI slotN at hq
  have none5 : ∀ lo hi k L6, Q (some (.int (-1))) h → K 5 [some (.ref p), some (.int (nI t)), some (.int (nI m)), some (.int lo), some (.int hi), some (.int k), L6] [] h 0 0 := by
    intro lo hi k L6 hq
    refine hK 5 _ _ _ _ _ _ _ _ rfl ?_
    dsimp only [k_L_slotOf_5, wpI, xop, xcall, xli, xlj, xlf, xld, xla, xlg, xst, xst2, xc1, pI, pJ, pF, pD, pR, pA, p1, p0, xpop, xpush, xsm, xhas, xif, xic, xsw, xrf, xret, xrtl, xrtf, xrtd, xrta, xrtv, xfit, xnew, cond_true, cond_false, f40, f41, f42, f43, List.length_cons, List.length_nil, Nat.reduceAdd, Nat.reduceSub, Nat.reduceMul, Nat.reduceBEq, List.map_cons, List.map_nil, List.headD_cons, List.getElem?_cons_zero, List.getElem?_cons_succ, List.set_cons_zero, List.set_cons_succ]
    exact ⟨Nat.le_refl _, Nat.le_refl _, hq⟩
  have loop : ∀ (f k lo hi : Nat) (L6 : Option Value), k + f = 132 → hi ≤ 132 → lo ≤ 132 → Q (some (.int (slotO t (bsN m f lo hi)))) h →
      K 1 [some (.ref p), some (.int (nI t)), some (.int (nI m)), some (.int (nI lo)), some (.int (rowI hi)), some (.int (nI k)), L6] [] h 0 0 := by
    intro f
    induction f with
    | zero =>
      intro k lo hi L6 hk hh hl hq
      refine hK 1 _ _ _ _ _ _ _ _ rfl ?_
      dsimp only [k_L_slotOf_1, wpI, xop, xcall, xli, xlj, xlf, xld, xla, xlg, xst, xst2, xc1, pI, pJ, pF, pD, pR, pA, p1, p0, xpop, xpush, xsm, xhas, xif, xic, xsw, xrf, xret, xrtl, xrtf, xrtd, xrta, xrtv, xfit, xnew, cond_true, cond_false, f40, f41, f42, f43, List.length_cons, List.length_nil, Nat.reduceAdd, Nat.reduceSub, Nat.reduceMul, Nat.reduceBEq, List.map_cons, List.map_nil, List.headD_cons, List.getElem?_cons_zero, List.getElem?_cons_succ, List.set_cons_zero, List.set_cons_succ]
      refine xhv_of hp ?_
      dsimp only [wpI, xop, xcall, xli, xlj, xlf, xld, xla, xlg, xst, xst2, xc1, pI, pJ, pF, pD, pR, pA, p1, p0, xpop, xpush, xsm, xhas, xif, xic, xsw, xrf, xret, xrtl, xrtf, xrtd, xrta, xrtv, xfit, xnew, cond_true, cond_false, f40, f41, f42, f43, List.length_cons, List.length_nil, Nat.reduceAdd, Nat.reduceSub, Nat.reduceMul, Nat.reduceBEq, List.map_cons, List.map_nil, List.headD_cons, List.getElem?_cons_zero, List.getElem?_cons_succ, List.set_cons_zero, List.set_cons_succ]
      refine xal_of ha2 ha ?_
      rw [List.length_map, shapes_len]
      try simp (disch := omega) only [nI_add, n_and, n_or, n_xor, n_i31, nI_leI, nI_ltI, n_e0, n_eq, n_m1e, n_l0, n_g0, n_p0, n_q0, n_cl, n_in, n_sub, n_shr, n_shl, n_div, bI_0, n_01, n_11, bI_or, not_false_eq_true, forall_const, not_true_eq_false, false_imp_iff, true_imp_iff]
      exact br_t (by omega) (none5 _ _ _ _ hq)
    | succ f ih =>
      intro k lo hi L6 hk hh hl hq
      rw [bsN] at hq
      refine hK 1 _ _ _ _ _ _ _ _ rfl ?_
      dsimp only [k_L_slotOf_1, wpI, xop, xcall, xli, xlj, xlf, xld, xla, xlg, xst, xst2, xc1, pI, pJ, pF, pD, pR, pA, p1, p0, xpop, xpush, xsm, xhas, xif, xic, xsw, xrf, xret, xrtl, xrtf, xrtd, xrta, xrtv, xfit, xnew, cond_true, cond_false, f40, f41, f42, f43, List.length_cons, List.length_nil, Nat.reduceAdd, Nat.reduceSub, Nat.reduceMul, Nat.reduceBEq, List.map_cons, List.map_nil, List.headD_cons, List.getElem?_cons_zero, List.getElem?_cons_succ, List.set_cons_zero, List.set_cons_succ]
      refine xhv_of hp ?_
      dsimp only [wpI, xop, xcall, xli, xlj, xlf, xld, xla, xlg, xst, xst2, xc1, pI, pJ, pF, pD, pR, pA, p1, p0, xpop, xpush, xsm, xhas, xif, xic, xsw, xrf, xret, xrtl, xrtf, xrtd, xrta, xrtv, xfit, xnew, cond_true, cond_false, f40, f41, f42, f43, List.length_cons, List.length_nil, Nat.reduceAdd, Nat.reduceSub, Nat.reduceMul, Nat.reduceBEq, List.map_cons, List.map_nil, List.headD_cons, List.getElem?_cons_zero, List.getElem?_cons_succ, List.set_cons_zero, List.set_cons_succ]
      refine xal_of ha2 ha ?_
      rw [List.length_map, shapes_len]
      try simp (disch := omega) only [nI_add, n_and, n_or, n_xor, n_i31, nI_leI, nI_ltI, n_e0, n_eq, n_m1e, n_l0, n_g0, n_p0, n_q0, n_cl, n_in, n_sub, n_shr, n_shl, n_div, bI_0, n_01, n_11, bI_or, not_false_eq_true, forall_const, not_true_eq_false, false_imp_iff, true_imp_iff, rowI_lt]
      refine br_f (by omega) ⟨fun z => ?_, fun z => ?_⟩
      · rw [if_pos z] at hq
        exact none5 _ _ _ _ hq
      · rw [if_neg z] at hq
        rw [rowI_pos (by omega)]
        try simp (disch := omega) only [nI_add, n_and, n_or, n_xor, n_i31, nI_leI, nI_ltI, n_e0, n_eq, n_m1e, n_l0, n_g0, n_p0, n_q0, n_cl, n_in, n_sub, n_shr, n_shl, n_div, bI_0, n_01, n_11, bI_or, not_false_eq_true, forall_const, not_true_eq_false, false_imp_iff, true_imp_iff]
        refine ⟨by decide, ?_⟩
        have hg := gS_lt ((lo + (hi - 1)) / 2)
        have hmid : (lo + (hi - 1)) / 2 < hi := by omega
        have hmid2 : lo ≤ (lo + (hi - 1)) / 2 := by omega
        generalize (lo + (hi - 1)) / 2 = mid at *
        refine xhv_of hp ?_
        dsimp only [wpI, xop, xcall, xli, xlj, xlf, xld, xla, xlg, xst, xst2, xc1, pI, pJ, pF, pD, pR, pA, p1, p0, xpop, xpush, xsm, xhas, xif, xic, xsw, xrf, xret, xrtl, xrtf, xrtd, xrta, xrtv, xfit, xnew, cond_true, cond_false, f40, f41, f42, f43, List.length_cons, List.length_nil, Nat.reduceAdd, Nat.reduceSub, Nat.reduceMul, Nat.reduceBEq, List.map_cons, List.map_nil, List.headD_cons, List.getElem?_cons_zero, List.getElem?_cons_succ, List.set_cons_zero, List.set_cons_succ]
        refine xai_of ha2 ha ?_
        rw [List.length_map, shapes_len]
        try simp (disch := omega) only [nI_add, n_and, n_or, n_xor, n_i31, nI_leI, nI_ltI, n_e0, n_eq, n_m1e, n_l0, n_g0, n_p0, n_q0, n_cl, n_in, n_sub, n_shr, n_shl, n_div, bI_0, n_01, n_11, bI_or, not_false_eq_true, forall_const, not_true_eq_false, false_imp_iff, true_imp_iff]
        refine ⟨by omega, ?_⟩
        rw [shp_at (by omega)]
        try simp (disch := omega) only [nI_add, n_and, n_or, n_xor, n_i31, nI_leI, nI_ltI, n_e0, n_eq, n_m1e, n_l0, n_g0, n_p0, n_q0, n_cl, n_in, n_sub, n_shr, n_shl, n_div, bI_0, n_01, n_11, bI_or, not_false_eq_true, forall_const, not_true_eq_false, false_imp_iff, true_imp_iff]
        refine ⟨fun z2 => ?_, fun z2 => ?_⟩
        · rw [if_neg z2] at hq
          refine hK 2 _ _ _ _ _ _ _ _ rfl ?_
          dsimp only [k_L_slotOf_2, wpI, xop, xcall, xli, xlj, xlf, xld, xla, xlg, xst, xst2, xc1, pI, pJ, pF, pD, pR, pA, p1, p0, xpop, xpush, xsm, xhas, xif, xic, xsw, xrf, xret, xrtl, xrtf, xrtd, xrta, xrtv, xfit, xnew, cond_true, cond_false, f40, f41, f42, f43, List.length_cons, List.length_nil, Nat.reduceAdd, Nat.reduceSub, Nat.reduceMul, Nat.reduceBEq, List.map_cons, List.map_nil, List.headD_cons, List.getElem?_cons_zero, List.getElem?_cons_succ, List.set_cons_zero, List.set_cons_succ]
          refine xhv_of hp ?_
          dsimp only [wpI, xop, xcall, xli, xlj, xlf, xld, xla, xlg, xst, xst2, xc1, pI, pJ, pF, pD, pR, pA, p1, p0, xpop, xpush, xsm, xhas, xif, xic, xsw, xrf, xret, xrtl, xrtf, xrtd, xrta, xrtv, xfit, xnew, cond_true, cond_false, f40, f41, f42, f43, List.length_cons, List.length_nil, Nat.reduceAdd, Nat.reduceSub, Nat.reduceMul, Nat.reduceBEq, List.map_cons, List.map_nil, List.headD_cons, List.getElem?_cons_zero, List.getElem?_cons_succ, List.set_cons_zero, List.set_cons_succ]
          refine xai_of ha2 ha ?_
          rw [List.length_map, shapes_len]
          try simp (disch := omega) only [nI_add, n_and, n_or, n_xor, n_i31, nI_leI, nI_ltI, n_e0, n_eq, n_m1e, n_l0, n_g0, n_p0, n_q0, n_cl, n_in, n_sub, n_shr, n_shl, n_div, bI_0, n_01, n_11, bI_or, not_false_eq_true, forall_const, not_true_eq_false, false_imp_iff, true_imp_iff]
          refine ⟨by omega, ?_⟩
          rw [shp_at (by omega)]
          try simp (disch := omega) only [nI_add, n_and, n_or, n_xor, n_i31, nI_leI, nI_ltI, n_e0, n_eq, n_m1e, n_l0, n_g0, n_p0, n_q0, n_cl, n_in, n_sub, n_shr, n_shl, n_div, bI_0, n_01, n_11, bI_or, not_false_eq_true, forall_const, not_true_eq_false, false_imp_iff, true_imp_iff]
          refine ⟨fun z3 => ?_, fun z3 => ?_⟩
          · rw [if_neg (by omega)] at hq
            refine hK 3 _ _ _ _ _ _ _ _ rfl ?_
            dsimp only [k_L_slotOf_3, wpI, xop, xcall, xli, xlj, xlf, xld, xla, xlg, xst, xst2, xc1, pI, pJ, pF, pD, pR, pA, p1, p0, xpop, xpush, xsm, xhas, xif, xic, xsw, xrf, xret, xrtl, xrtf, xrtd, xrta, xrtv, xfit, xnew, cond_true, cond_false, f40, f41, f42, f43, List.length_cons, List.length_nil, Nat.reduceAdd, Nat.reduceSub, Nat.reduceMul, Nat.reduceBEq, List.map_cons, List.map_nil, List.headD_cons, List.getElem?_cons_zero, List.getElem?_cons_succ, List.set_cons_zero, List.set_cons_succ]
            rw [rowI_p]
            refine hK 4 _ _ _ _ _ _ _ _ rfl ?_
            dsimp only [k_L_slotOf_4, wpI, xop, xcall, xli, xlj, xlf, xld, xla, xlg, xst, xst2, xc1, pI, pJ, pF, pD, pR, pA, p1, p0, xpop, xpush, xsm, xhas, xif, xic, xsw, xrf, xret, xrtl, xrtf, xrtd, xrta, xrtv, xfit, xnew, cond_true, cond_false, f40, f41, f42, f43, List.length_cons, List.length_nil, Nat.reduceAdd, Nat.reduceSub, Nat.reduceMul, Nat.reduceBEq, List.map_cons, List.map_nil, List.headD_cons, List.getElem?_cons_zero, List.getElem?_cons_succ, List.set_cons_zero, List.set_cons_succ]
            try simp (disch := omega) only [nI_add, n_and, n_or, n_xor, n_i31, nI_leI, nI_ltI, n_e0, n_eq, n_m1e, n_l0, n_g0, n_p0, n_q0, n_cl, n_in, n_sub, n_shr, n_shl, n_div, bI_0, n_01, n_11, bI_or, not_false_eq_true, forall_const, not_true_eq_false, false_imp_iff, true_imp_iff]
            exact ih (k + 1) lo mid _ (by omega) (by omega) hl hq
          · rw [if_pos (by omega)] at hq
            rw [← rowI_pos (k := hi) (by omega)]
            refine hK 4 _ _ _ _ _ _ _ _ rfl ?_
            dsimp only [k_L_slotOf_4, wpI, xop, xcall, xli, xlj, xlf, xld, xla, xlg, xst, xst2, xc1, pI, pJ, pF, pD, pR, pA, p1, p0, xpop, xpush, xsm, xhas, xif, xic, xsw, xrf, xret, xrtl, xrtf, xrtd, xrta, xrtv, xfit, xnew, cond_true, cond_false, f40, f41, f42, f43, List.length_cons, List.length_nil, Nat.reduceAdd, Nat.reduceSub, Nat.reduceMul, Nat.reduceBEq, List.map_cons, List.map_nil, List.headD_cons, List.getElem?_cons_zero, List.getElem?_cons_succ, List.set_cons_zero, List.set_cons_succ]
            try simp (disch := omega) only [nI_add, n_and, n_or, n_xor, n_i31, nI_leI, nI_ltI, n_e0, n_eq, n_m1e, n_l0, n_g0, n_p0, n_q0, n_cl, n_in, n_sub, n_shr, n_shl, n_div, bI_0, n_01, n_11, bI_or, not_false_eq_true, forall_const, not_true_eq_false, false_imp_iff, true_imp_iff]
            exact ih (k + 1) (mid + 1) hi _ (by omega) hh (by omega) hq
        · rw [if_pos z2] at hq
          rw [pk_mul]
          try simp (disch := omega) only [nI_add, n_and, n_or, n_xor, n_i31, nI_leI, nI_ltI, n_e0, n_eq, n_m1e, n_l0, n_g0, n_p0, n_q0, n_cl, n_in, n_sub, n_shr, n_shl, n_div, bI_0, n_01, n_11, bI_or, not_false_eq_true, forall_const, not_true_eq_false, false_imp_iff, true_imp_iff]
          exact ⟨Nat.le_refl _, Nat.le_refl _, hq⟩
  refine hK 0 _ _ _ _ _ _ _ _ rfl ?_
  dsimp only [k_L_slotOf_0, wpI, xop, xcall, xli, xlj, xlf, xld, xla, xlg, xst, xst2, xc1, pI, pJ, pF, pD, pR, pA, p1, p0, xpop, xpush, xsm, xhas, xif, xic, xsw, xrf, xret, xrtl, xrtf, xrtd, xrta, xrtv, xfit, xnew, cond_true, cond_false, f40, f41, f42, f43, List.length_cons, List.length_nil, Nat.reduceAdd, Nat.reduceSub, Nat.reduceMul, Nat.reduceBEq, List.map_cons, List.map_nil, List.headD_cons, List.getElem?_cons_zero, List.getElem?_cons_succ, List.set_cons_zero, List.set_cons_succ]
  refine xhv_of hp ?_
  dsimp only [wpI, xop, xcall, xli, xlj, xlf, xld, xla, xlg, xst, xst2, xc1, pI, pJ, pF, pD, pR, pA, p1, p0, xpop, xpush, xsm, xhas, xif, xic, xsw, xrf, xret, xrtl, xrtf, xrtd, xrta, xrtv, xfit, xnew, cond_true, cond_false, f40, f41, f42, f43, List.length_cons, List.length_nil, Nat.reduceAdd, Nat.reduceSub, Nat.reduceMul, Nat.reduceBEq, List.map_cons, List.map_nil, List.headD_cons, List.getElem?_cons_zero, List.getElem?_cons_succ, List.set_cons_zero, List.set_cons_succ]
  refine xal_of ha2 ha ?_
  rw [List.length_map, shapes_len, rowI_p]
  exact loop 132 0 0 132 _ rfl (by decide) (by decide) hq
end
section
/-! ===== Play: what lies behind a theft, and what is asked of the tables ===== -/
set_option maxRecDepth 100000 in
set_option maxHeartbeats 4000000 in
theorem ev_max (d a b : Nat) (h : xH) (ha : a < 2 ^ 31) (hb : b < 2 ^ 31) : Ev xT (d + 1) N_J_max [.int (nI a), .int (nI b)] h (Rt (some (.int (nI (max a b)))) h) NX := by
  refine Ev_intro t_J_max (Nat.le_of_ble_eq_true rfl) ?_
  intro Q X hQ hX K hK
  show K 0 [some (.int (nI a)), some (.int (nI b))] [] _ 0 0
  have hq := hQ _ _ ⟨rfl, rfl⟩
  refine hK 0 _ _ _ _ _ _ _ _ rfl ?_
  dsimp only [k_J_max_0, wpI, xop, xcall, xli, xlj, xlf, xld, xla, xlg, xst, xst2, xc1, pI, pJ, pF, pD, pR, pA, p1, p0, xpop, xpush, xsm, xhas, xif, xic, xsw, xai, xal, xhi, xhv, xrf, xret, xrtl, xrtf, xrtd, xrta, xrtv, xfit, xnew, cond_true, cond_false, f40, f41, f42, f43, List.length_cons, List.length_nil, Nat.reduceAdd, Nat.reduceSub, Nat.reduceMul, Nat.reduceBEq, List.map_cons, List.map_nil, List.headD_cons, List.getElem?_cons_zero, List.getElem?_cons_succ, List.set_cons_zero, List.set_cons_succ]
  try simp (disch := omega) only [nI_add, n_and, n_or, n_xor, n_i31, nI_leI, nI_ltI, n_e0, n_eq, n_m1e, n_l0, n_g0, n_p0, n_q0, n_cl, n_in, n_sub, n_shr, n_shl, n_div, bI_0, n_01, n_11, bI_or, not_false_eq_true, forall_const, not_true_eq_false, false_imp_iff, true_imp_iff]
  refine ⟨fun z => ?_, fun z => ?_⟩
  · rw [Nat.max_eq_right (by omega)] at hq
    refine hK 1 _ _ _ _ _ _ _ _ rfl ?_
    dsimp only [k_J_max_1, wpI, xop, xcall, xli, xlj, xlf, xld, xla, xlg, xst, xst2, xc1, pI, pJ, pF, pD, pR, pA, p1, p0, xpop, xpush, xsm, xhas, xif, xic, xsw, xai, xal, xhi, xhv, xrf, xret, xrtl, xrtf, xrtd, xrta, xrtv, xfit, xnew, cond_true, cond_false, f40, f41, f42, f43, List.length_cons, List.length_nil, Nat.reduceAdd, Nat.reduceSub, Nat.reduceMul, Nat.reduceBEq, List.map_cons, List.map_nil, List.headD_cons, List.getElem?_cons_zero, List.getElem?_cons_succ, List.set_cons_zero, List.set_cons_succ]
    refine hK 2 _ _ _ _ _ _ _ _ rfl ?_
    dsimp only [k_J_max_2, wpI, xop, xcall, xli, xlj, xlf, xld, xla, xlg, xst, xst2, xc1, pI, pJ, pF, pD, pR, pA, p1, p0, xpop, xpush, xsm, xhas, xif, xic, xsw, xai, xal, xhi, xhv, xrf, xret, xrtl, xrtf, xrtd, xrta, xrtv, xfit, xnew, cond_true, cond_false, f40, f41, f42, f43, List.length_cons, List.length_nil, Nat.reduceAdd, Nat.reduceSub, Nat.reduceMul, Nat.reduceBEq, List.map_cons, List.map_nil, List.headD_cons, List.getElem?_cons_zero, List.getElem?_cons_succ, List.set_cons_zero, List.set_cons_succ]
    exact ⟨Nat.le_refl _, Nat.le_refl _, hq⟩
  · rw [Nat.max_eq_left (by omega)] at hq
    refine hK 2 _ _ _ _ _ _ _ _ rfl ?_
    dsimp only [k_J_max_2, wpI, xop, xcall, xli, xlj, xlf, xld, xla, xlg, xst, xst2, xc1, pI, pJ, pF, pD, pR, pA, p1, p0, xpop, xpush, xsm, xhas, xif, xic, xsw, xai, xal, xhi, xhv, xrf, xret, xrtl, xrtf, xrtd, xrta, xrtv, xfit, xnew, cond_true, cond_false, f40, f41, f42, f43, List.length_cons, List.length_nil, Nat.reduceAdd, Nat.reduceSub, Nat.reduceMul, Nat.reduceBEq, List.map_cons, List.map_nil, List.headD_cons, List.getElem?_cons_zero, List.getElem?_cons_succ, List.set_cons_zero, List.set_cons_succ]
    exact ⟨Nat.le_refl _, Nat.le_refl _, hq⟩
set_option maxRecDepth 100000 in
set_option maxHeartbeats 4000000 in
theorem ev_min (d a b : Nat) (h : xH) (ha : a < 2 ^ 31) (hb : b < 2 ^ 31) : Ev xT (d + 1) N_J_min [.int (nI a), .int (nI b)] h (Rt (some (.int (nI (min a b)))) h) NX := by
  refine Ev_intro t_J_min (Nat.le_of_ble_eq_true rfl) ?_
  intro Q X hQ hX K hK
  show K 0 [some (.int (nI a)), some (.int (nI b))] [] _ 0 0
  have hq := hQ _ _ ⟨rfl, rfl⟩
  refine hK 0 _ _ _ _ _ _ _ _ rfl ?_
  dsimp only [k_J_min_0, wpI, xop, xcall, xli, xlj, xlf, xld, xla, xlg, xst, xst2, xc1, pI, pJ, pF, pD, pR, pA, p1, p0, xpop, xpush, xsm, xhas, xif, xic, xsw, xai, xal, xhi, xhv, xrf, xret, xrtl, xrtf, xrtd, xrta, xrtv, xfit, xnew, cond_true, cond_false, f40, f41, f42, f43, List.length_cons, List.length_nil, Nat.reduceAdd, Nat.reduceSub, Nat.reduceMul, Nat.reduceBEq, List.map_cons, List.map_nil, List.headD_cons, List.getElem?_cons_zero, List.getElem?_cons_succ, List.set_cons_zero, List.set_cons_succ]
  try simp (disch := omega) only [nI_add, n_and, n_or, n_xor, n_i31, nI_leI, nI_ltI, n_e0, n_eq, n_m1e, n_l0, n_g0, n_p0, n_q0, n_cl, n_in, n_sub, n_shr, n_shl, n_div, bI_0, n_01, n_11, bI_or, not_false_eq_true, forall_const, not_true_eq_false, false_imp_iff, true_imp_iff]
  refine ⟨fun z => ?_, fun z => ?_⟩
  · rw [Nat.min_eq_right (by omega)] at hq
    refine hK 1 _ _ _ _ _ _ _ _ rfl ?_
    dsimp only [k_J_min_1, wpI, xop, xcall, xli, xlj, xlf, xld, xla, xlg, xst, xst2, xc1, pI, pJ, pF, pD, pR, pA, p1, p0, xpop, xpush, xsm, xhas, xif, xic, xsw, xai, xal, xhi, xhv, xrf, xret, xrtl, xrtf, xrtd, xrta, xrtv, xfit, xnew, cond_true, cond_false, f40, f41, f42, f43, List.length_cons, List.length_nil, Nat.reduceAdd, Nat.reduceSub, Nat.reduceMul, Nat.reduceBEq, List.map_cons, List.map_nil, List.headD_cons, List.getElem?_cons_zero, List.getElem?_cons_succ, List.set_cons_zero, List.set_cons_succ]
    refine hK 2 _ _ _ _ _ _ _ _ rfl ?_
    dsimp only [k_J_min_2, wpI, xop, xcall, xli, xlj, xlf, xld, xla, xlg, xst, xst2, xc1, pI, pJ, pF, pD, pR, pA, p1, p0, xpop, xpush, xsm, xhas, xif, xic, xsw, xai, xal, xhi, xhv, xrf, xret, xrtl, xrtf, xrtd, xrta, xrtv, xfit, xnew, cond_true, cond_false, f40, f41, f42, f43, List.length_cons, List.length_nil, Nat.reduceAdd, Nat.reduceSub, Nat.reduceMul, Nat.reduceBEq, List.map_cons, List.map_nil, List.headD_cons, List.getElem?_cons_zero, List.getElem?_cons_succ, List.set_cons_zero, List.set_cons_succ]
    exact ⟨Nat.le_refl _, Nat.le_refl _, hq⟩
  · rw [Nat.min_eq_left (by omega)] at hq
    refine hK 2 _ _ _ _ _ _ _ _ rfl ?_
    dsimp only [k_J_min_2, wpI, xop, xcall, xli, xlj, xlf, xld, xla, xlg, xst, xst2, xc1, pI, pJ, pF, pD, pR, pA, p1, p0, xpop, xpush, xsm, xhas, xif, xic, xsw, xai, xal, xhi, xhv, xrf, xret, xrtl, xrtf, xrtd, xrta, xrtv, xfit, xnew, cond_true, cond_false, f40, f41, f42, f43, List.length_cons, List.length_nil, Nat.reduceAdd, Nat.reduceSub, Nat.reduceMul, Nat.reduceBEq, List.map_cons, List.map_nil, List.headD_cons, List.getElem?_cons_zero, List.getElem?_cons_succ, List.set_cons_zero, List.set_cons_succ]
    exact ⟨Nat.le_refl _, Nat.le_refl _, hq⟩
/-- the tables of a Play: won, longest, shortest -/
abbrev xTb : Type := List Bool × List Nat × List Nat
def PlA (h : xH) (p a w lg sh most : Nat) (bar wo : Bool) (T : xTb) : Prop :=
  h[p]? = some (5, [], [.ref a, .int (nI most), .int (bI bar), .int (bI wo), .ref w, .ref lg, .ref sh]) ∧
  h[a]? = some (0, shapesN.map nI, []) ∧
  h[w]? = some (2, T.1.map bI, []) ∧
  h[lg]? = some (0, T.2.1.map nI, []) ∧
  h[sh]? = some (0, T.2.2.map nI, []) ∧
  a < 1000 ∧
  lg < 1000 ∧
  sh < 1000 ∧
  T.1.length = 264 ∧
  T.2.1.length = 264 ∧
  T.2.2.length = 264
theorem PlA.obj {h : xH} {p a w lg sh most : Nat} {bar wo : Bool} {T : xTb} (x : PlA h p a w lg sh most bar wo T) : h[p]? = some (5, [], [.ref a, .int (nI most), .int (bI bar), .int (bI wo), .ref w, .ref lg, .ref sh]) := x.1
theorem PlA.shp {h : xH} {p a w lg sh most : Nat} {bar wo : Bool} {T : xTb} (x : PlA h p a w lg sh most bar wo T) : h[a]? = some (0, shapesN.map nI, []) := x.2.1
theorem PlA.won {h : xH} {p a w lg sh most : Nat} {bar wo : Bool} {T : xTb} (x : PlA h p a w lg sh most bar wo T) : h[w]? = some (2, T.1.map bI, []) := x.2.2.1
theorem PlA.lon {h : xH} {p a w lg sh most : Nat} {bar wo : Bool} {T : xTb} (x : PlA h p a w lg sh most bar wo T) : h[lg]? = some (0, T.2.1.map nI, []) := x.2.2.2.1
theorem PlA.sho {h : xH} {p a w lg sh most : Nat} {bar wo : Bool} {T : xTb} (x : PlA h p a w lg sh most bar wo T) : h[sh]? = some (0, T.2.2.map nI, []) := x.2.2.2.2.1
theorem PlA.la {h : xH} {p a w lg sh most : Nat} {bar wo : Bool} {T : xTb} (x : PlA h p a w lg sh most bar wo T) : a < 1000 := x.2.2.2.2.2.1
theorem PlA.ll {h : xH} {p a w lg sh most : Nat} {bar wo : Bool} {T : xTb} (x : PlA h p a w lg sh most bar wo T) : lg < 1000 := x.2.2.2.2.2.2.1
theorem PlA.ls {h : xH} {p a w lg sh most : Nat} {bar wo : Bool} {T : xTb} (x : PlA h p a w lg sh most bar wo T) : sh < 1000 := x.2.2.2.2.2.2.2.1
theorem PlA.n1 {h : xH} {p a w lg sh most : Nat} {bar wo : Bool} {T : xTb} (x : PlA h p a w lg sh most bar wo T) : T.1.length = 264 := x.2.2.2.2.2.2.2.2.1
theorem PlA.n2 {h : xH} {p a w lg sh most : Nat} {bar wo : Bool} {T : xTb} (x : PlA h p a w lg sh most bar wo T) : T.2.1.length = 264 := x.2.2.2.2.2.2.2.2.2.1
theorem PlA.n3 {h : xH} {p a w lg sh most : Nat} {bar wo : Bool} {T : xTb} (x : PlA h p a w lg sh most bar wo T) : T.2.2.length = 264 := x.2.2.2.2.2.2.2.2.2.2
theorem nL_at {l : List Nat} {i : Nat} (h : i < l.length) : (l.map nI).getD i 0 = nI (l.getD i 0) := by
  rw [List.getD_eq_getElem?_getD, List.getElem?_map, List.getD_eq_getElem?_getD, List.getElem?_eq_getElem h]
  rfl
theorem bL_at {l : List Bool} {i : Nat} (h : i < l.length) : (l.map bI).getD i 0 = bI (l.getD i false) := by
  rw [List.getD_eq_getElem?_getD, List.getElem?_map, List.getD_eq_getElem?_getD, List.getElem?_eq_getElem h]
  rfl
def sbO (bar : Bool) (t m r b : Nat) : Option Nat := if (robN m t r b).2 = 0 then
    (if bar = true ∧ settledN (robN m t r b).1 ≠ (robN m t r b).1 then none else (slotN (settledN (robN m t r b).1)).map fun i => 2 * i + (1 - t)) else none
def oI : Option Nat → Int32
  | some s => nI s
  | none => -1
theorem slotO_map (t : Nat) (o : Option Nat) : slotO t o = oI (o.map fun i => 2 * i + t) := by cases o <;> rfl
theorem slotN_lt {m i : Nat} (h : slotN m = some i) : i < 132 := (bsN_lt m 132 0 132 i (Nat.le_refl _) h).1
theorem sbO_lt {bar : Bool} {t m r b s : Nat} (h : sbO bar t m r b = some s) : s < 264 := by
  unfold sbO at h
  by_cases z : (robN m t r b).2 = 0
  · rw [if_pos z] at h
    by_cases z2 : bar = true ∧ settledN (robN m t r b).1 ≠ (robN m t r b).1
    · rw [if_pos z2] at h; simp at h
    · rw [if_neg z2] at h
      rw [Option.map_eq_some_iff] at h
      obtain ⟨i, e, rfl⟩ := h
      have := slotN_lt e
      omega
  · rw [if_neg z] at h; simp at h
set_option maxRecDepth 100000 in
set_option maxHeartbeats 4000000 in
theorem ev_slotBehind (d p a w lg sh most t m r b : Nat) (bar wo : Bool) (T : xTb) (h : xH) (pl : PlA h p a w lg sh most bar wo T) (ht : t < 2) (hm : m < 32768) (hr : r < 5) (hb : b < 100) :
    Ev xT (d + 2) N_L_slotBehind [.ref p, .int (nI t), .int (nI m), .int (nI r), .int (nI b)] h (Rt (some (.int (oI (sbO bar t m r b)))) h) NX := by
  refine Ev_intro t_L_slotBehind (Nat.le_of_ble_eq_true rfl) ?_
  intro Q X hQ hX K hK
  show K 0 [some (.ref p), some (.int (nI t)), some (.int (nI m)), some (.int (nI r)), some (.int (nI b)), none, none] [] _ 0 0
  have hq := hQ _ _ ⟨rfl, rfl⟩
  unfold sbO at hq
  have hl : (robN m t r b).1 < 32768 := rob_lt hm
  have hs := settled_lt hl
  refine hK 0 _ _ _ _ _ _ _ _ rfl ?_
  dsimp only [k_L_slotBehind_0, wpI, xop, xcall, xli, xlj, xlf, xld, xla, xlg, xst, xst2, xc1, pI, pJ, pF, pD, pR, pA, p1, p0, xpop, xpush, xsm, xhas, xif, xic, xsw, xrf, xret, xrtl, xrtf, xrtd, xrta, xrtv, xfit, xnew, cond_true, cond_false, f40, f41, f42, f43, List.length_cons, List.length_nil, Nat.reduceAdd, Nat.reduceSub, Nat.reduceMul, Nat.reduceBEq, List.map_cons, List.map_nil, List.headD_cons, List.getElem?_cons_zero, List.getElem?_cons_succ, List.set_cons_zero, List.set_cons_succ]
  refine Ev_use (ev_robbed _ m t r b h hm ht hr hb) ?_
  by_cases z : (robN m t r b).2 = 0
  · rw [if_pos z] at hq ⊢
    dsimp only [wpI, xop, xcall, xli, xlj, xlf, xld, xla, xlg, xst, xst2, xc1, pI, pJ, pF, pD, pR, pA, p1, p0, xpop, xpush, xsm, xhas, xif, xic, xsw, xrf, xret, xrtl, xrtf, xrtd, xrta, xrtv, xfit, xnew, cond_true, cond_false, f40, f41, f42, f43, List.length_cons, List.length_nil, Nat.reduceAdd, Nat.reduceSub, Nat.reduceMul, Nat.reduceBEq, List.map_cons, List.map_nil, List.headD_cons, List.getElem?_cons_zero, List.getElem?_cons_succ, List.set_cons_zero, List.set_cons_succ]
    refine ⟨fun _ => ?_, fun z2 => ((n_m1e (by omega)).mp z2).elim⟩
    refine hK 1 _ _ _ _ _ _ _ _ rfl ?_
    dsimp only [k_L_slotBehind_1, wpI, xop, xcall, xli, xlj, xlf, xld, xla, xlg, xst, xst2, xc1, pI, pJ, pF, pD, pR, pA, p1, p0, xpop, xpush, xsm, xhas, xif, xic, xsw, xrf, xret, xrtl, xrtf, xrtd, xrta, xrtv, xfit, xnew, cond_true, cond_false, f40, f41, f42, f43, List.length_cons, List.length_nil, Nat.reduceAdd, Nat.reduceSub, Nat.reduceMul, Nat.reduceBEq, List.map_cons, List.map_nil, List.headD_cons, List.getElem?_cons_zero, List.getElem?_cons_succ, List.set_cons_zero, List.set_cons_succ]
    refine Ev_use (ev_settled _ _ h hl) ?_
    dsimp only [wpI, xop, xcall, xli, xlj, xlf, xld, xla, xlg, xst, xst2, xc1, pI, pJ, pF, pD, pR, pA, p1, p0, xpop, xpush, xsm, xhas, xif, xic, xsw, xrf, xret, xrtl, xrtf, xrtd, xrta, xrtv, xfit, xnew, cond_true, cond_false, f40, f41, f42, f43, List.length_cons, List.length_nil, Nat.reduceAdd, Nat.reduceSub, Nat.reduceMul, Nat.reduceBEq, List.map_cons, List.map_nil, List.headD_cons, List.getElem?_cons_zero, List.getElem?_cons_succ, List.set_cons_zero, List.set_cons_succ]
    refine xhv_of pl.obj ?_
    dsimp only [wpI, xop, xcall, xli, xlj, xlf, xld, xla, xlg, xst, xst2, xc1, pI, pJ, pF, pD, pR, pA, p1, p0, xpop, xpush, xsm, xhas, xif, xic, xsw, xrf, xret, xrtl, xrtf, xrtd, xrta, xrtv, xfit, xnew, cond_true, cond_false, f40, f41, f42, f43, List.length_cons, List.length_nil, Nat.reduceAdd, Nat.reduceSub, Nat.reduceMul, Nat.reduceBEq, List.map_cons, List.map_nil, List.headD_cons, List.getElem?_cons_zero, List.getElem?_cons_succ, List.set_cons_zero, List.set_cons_succ]
    have go2 : Q (some (.int (oI ((slotN (settledN (robN m t r b).1)).map fun i => 2 * i + (1 - t))))) h → K 2 [some (.ref p), some (.int (nI t)), some (.int (nI m)), some (.int (nI r)), some (.int (nI b)), some (.int (nI (robN m t r b).1)), some (.int (nI (settledN (robN m t r b).1)))] [] h 0 0 := by
      intro hq
      refine hK 2 _ _ _ _ _ _ _ _ rfl ?_
      dsimp only [k_L_slotBehind_2, wpI, xop, xcall, xli, xlj, xlf, xld, xla, xlg, xst, xst2, xc1, pI, pJ, pF, pD, pR, pA, p1, p0, xpop, xpush, xsm, xhas, xif, xic, xsw, xrf, xret, xrtl, xrtf, xrtd, xrta, xrtv, xfit, xnew, cond_true, cond_false, f40, f41, f42, f43, List.length_cons, List.length_nil, Nat.reduceAdd, Nat.reduceSub, Nat.reduceMul, Nat.reduceBEq, List.map_cons, List.map_nil, List.headD_cons, List.getElem?_cons_zero, List.getElem?_cons_succ, List.set_cons_zero, List.set_cons_succ]
      try simp (disch := omega) only [nI_add, n_and, n_or, n_xor, n_i31, nI_leI, nI_ltI, n_e0, n_eq, n_m1e, n_l0, n_g0, n_p0, n_q0, n_cl, n_in, n_sub, n_shr, n_shl, n_div, bI_0, n_01, n_11, bI_or, not_false_eq_true, forall_const, not_true_eq_false, false_imp_iff, true_imp_iff]
      refine xhv_of pl.obj ?_
      refine Ev_use (ev_slotOf _ p a (1 - t) _ h _ pl.obj pl.shp pl.la (by omega) hs) ?_
      unfold slotI
      rw [slotO_map]
      dsimp only [wpI, xop, xcall, xli, xlj, xlf, xld, xla, xlg, xst, xst2, xc1, pI, pJ, pF, pD, pR, pA, p1, p0, xpop, xpush, xsm, xhas, xif, xic, xsw, xrf, xret, xrtl, xrtf, xrtd, xrta, xrtv, xfit, xnew, cond_true, cond_false, f40, f41, f42, f43, List.length_cons, List.length_nil, Nat.reduceAdd, Nat.reduceSub, Nat.reduceMul, Nat.reduceBEq, List.map_cons, List.map_nil, List.headD_cons, List.getElem?_cons_zero, List.getElem?_cons_succ, List.set_cons_zero, List.set_cons_succ]
      refine hK 3 _ _ _ _ _ _ _ _ rfl ?_
      dsimp only [k_L_slotBehind_3, wpI, xop, xcall, xli, xlj, xlf, xld, xla, xlg, xst, xst2, xc1, pI, pJ, pF, pD, pR, pA, p1, p0, xpop, xpush, xsm, xhas, xif, xic, xsw, xrf, xret, xrtl, xrtf, xrtd, xrta, xrtv, xfit, xnew, cond_true, cond_false, f40, f41, f42, f43, List.length_cons, List.length_nil, Nat.reduceAdd, Nat.reduceSub, Nat.reduceMul, Nat.reduceBEq, List.map_cons, List.map_nil, List.headD_cons, List.getElem?_cons_zero, List.getElem?_cons_succ, List.set_cons_zero, List.set_cons_succ]
      exact ⟨Nat.le_refl _, Nat.le_refl _, hq⟩
    cases bar with
    | false =>
      refine ⟨fun _ => ?_, fun z2 => (z2 rfl).elim⟩
      rw [if_neg (by simp)] at hq
      exact go2 hq
    | true =>
      refine ⟨fun z2 => ?_, fun _ => ?_⟩
      · exact absurd z2 (by decide)
      · try simp (disch := omega) only [nI_add, n_and, n_or, n_xor, n_i31, nI_leI, nI_ltI, n_e0, n_eq, n_m1e, n_l0, n_g0, n_p0, n_q0, n_cl, n_in, n_sub, n_shr, n_shl, n_div, bI_0, n_01, n_11, bI_or, not_false_eq_true, forall_const, not_true_eq_false, false_imp_iff, true_imp_iff]
        refine ⟨fun z3 => ?_, fun z3 => ?_⟩
        · rw [if_neg (by rintro ⟨_, z4⟩; exact z4 z3)] at hq
          exact go2 hq
        · rw [if_pos ⟨rfl, z3⟩] at hq
          refine hK 3 _ _ _ _ _ _ _ _ rfl ?_
          dsimp only [k_L_slotBehind_3, wpI, xop, xcall, xli, xlj, xlf, xld, xla, xlg, xst, xst2, xc1, pI, pJ, pF, pD, pR, pA, p1, p0, xpop, xpush, xsm, xhas, xif, xic, xsw, xrf, xret, xrtl, xrtf, xrtd, xrta, xrtv, xfit, xnew, cond_true, cond_false, f40, f41, f42, f43, List.length_cons, List.length_nil, Nat.reduceAdd, Nat.reduceSub, Nat.reduceMul, Nat.reduceBEq, List.map_cons, List.map_nil, List.headD_cons, List.getElem?_cons_zero, List.getElem?_cons_succ, List.set_cons_zero, List.set_cons_succ]
          exact ⟨Nat.le_refl _, Nat.le_refl _, hq⟩
  · rw [if_neg z] at hq ⊢
    dsimp only [wpI, xop, xcall, xli, xlj, xlf, xld, xla, xlg, xst, xst2, xc1, pI, pJ, pF, pD, pR, pA, p1, p0, xpop, xpush, xsm, xhas, xif, xic, xsw, xrf, xret, xrtl, xrtf, xrtd, xrta, xrtv, xfit, xnew, cond_true, cond_false, f40, f41, f42, f43, List.length_cons, List.length_nil, Nat.reduceAdd, Nat.reduceSub, Nat.reduceMul, Nat.reduceBEq, List.map_cons, List.map_nil, List.headD_cons, List.getElem?_cons_zero, List.getElem?_cons_succ, List.set_cons_zero, List.set_cons_succ]
    refine ⟨fun z => (z rfl).elim, fun _ => ?_⟩
    exact ⟨Nat.le_refl _, Nat.le_refl _, hq⟩
end
section
/-! ===== Play: what is asked ===== -/
def wonB (T : xTb) (t m : Nat) : Bool := match slotN m with
  | some i => T.1.getD (2 * i + t) false
  | none => false
def lonN (T : xTb) (t m : Nat) : Nat := match slotN m with
  | some i => T.2.1.getD (2 * i + t) 0
  | none => 0
def shoN (T : xTb) (t m : Nat) : Nat := match slotN m with
  | some i => T.2.2.getD (2 * i + t) 0
  | none => 0
set_option maxRecDepth 100000 in
set_option maxHeartbeats 4000000 in
theorem ev_isWonBy (d p a w lg sh most t m : Nat) (bar wo : Bool) (T : xTb) (h : xH) (pl : PlA h p a w lg sh most bar wo T) (ht : t < 2) (hm : m < 32768) :
    Ev xT (d + 2) N_L_isWonBy [.ref p, .int (nI t), .int (nI m)] h (Rt (some (.int (bI (wonB T t m)))) h) NX := by
  refine Ev_intro t_L_isWonBy (Nat.le_of_ble_eq_true rfl) ?_
  intro Q X hQ hX K hK
  show K 0 [some (.ref p), some (.int (nI t)), some (.int (nI m)), none] [] _ 0 0
  have hq := hQ _ _ ⟨rfl, rfl⟩
  unfold wonB at hq
  refine hK 0 _ _ _ _ _ _ _ _ rfl ?_
  dsimp only [k_L_isWonBy_0, wpI, xop, xcall, xli, xlj, xlf, xld, xla, xlg, xst, xst2, xc1, pI, pJ, pF, pD, pR, pA, p1, p0, xpop, xpush, xsm, xhas, xif, xic, xsw, xrf, xret, xrtl, xrtf, xrtd, xrta, xrtv, xfit, xnew, cond_true, cond_false, f40, f41, f42, f43, List.length_cons, List.length_nil, Nat.reduceAdd, Nat.reduceSub, Nat.reduceMul, Nat.reduceBEq, List.map_cons, List.map_nil, List.headD_cons, List.getElem?_cons_zero, List.getElem?_cons_succ, List.set_cons_zero, List.set_cons_succ]
  refine xhv_of pl.obj ?_
  refine Ev_use (ev_slotOf _ p a t _ h _ pl.obj pl.shp pl.la ht hm) ?_
  unfold slotI
  dsimp only [wpI, xop, xcall, xli, xlj, xlf, xld, xla, xlg, xst, xst2, xc1, pI, pJ, pF, pD, pR, pA, p1, p0, xpop, xpush, xsm, xhas, xif, xic, xsw, xrf, xret, xrtl, xrtf, xrtd, xrta, xrtv, xfit, xnew, cond_true, cond_false, f40, f41, f42, f43, List.length_cons, List.length_nil, Nat.reduceAdd, Nat.reduceSub, Nat.reduceMul, Nat.reduceBEq, List.map_cons, List.map_nil, List.headD_cons, List.getElem?_cons_zero, List.getElem?_cons_succ, List.set_cons_zero, List.set_cons_succ]
  have n1 := pl.n1
  cases e : slotN m with
  | none =>
    rw [e] at hq
    refine ⟨fun _ => ?_, fun z => (z rfl).elim⟩
    refine hK 1 _ _ _ _ _ _ _ _ rfl ?_
    dsimp only [k_L_isWonBy_1, wpI, xop, xcall, xli, xlj, xlf, xld, xla, xlg, xst, xst2, xc1, pI, pJ, pF, pD, pR, pA, p1, p0, xpop, xpush, xsm, xhas, xif, xic, xsw, xrf, xret, xrtl, xrtf, xrtd, xrta, xrtv, xfit, xnew, cond_true, cond_false, f40, f41, f42, f43, List.length_cons, List.length_nil, Nat.reduceAdd, Nat.reduceSub, Nat.reduceMul, Nat.reduceBEq, List.map_cons, List.map_nil, List.headD_cons, List.getElem?_cons_zero, List.getElem?_cons_succ, List.set_cons_zero, List.set_cons_succ]
    refine hK 2 _ _ _ _ _ _ _ _ rfl ?_
    dsimp only [k_L_isWonBy_2, wpI, xop, xcall, xli, xlj, xlf, xld, xla, xlg, xst, xst2, xc1, pI, pJ, pF, pD, pR, pA, p1, p0, xpop, xpush, xsm, xhas, xif, xic, xsw, xrf, xret, xrtl, xrtf, xrtd, xrta, xrtv, xfit, xnew, cond_true, cond_false, f40, f41, f42, f43, List.length_cons, List.length_nil, Nat.reduceAdd, Nat.reduceSub, Nat.reduceMul, Nat.reduceBEq, List.map_cons, List.map_nil, List.headD_cons, List.getElem?_cons_zero, List.getElem?_cons_succ, List.set_cons_zero, List.set_cons_succ]
    exact ⟨Or.inl rfl, Nat.le_refl _, Nat.le_refl _, hq⟩
  | some i =>
    rw [e] at hq
    have hi := slotN_lt e
    dsimp only at hq
    show (nI (2 * i + t) = -1 → _) ∧ (¬ nI (2 * i + t) = -1 → _)
    refine ⟨fun z => ((n_m1e (by omega)).mp z).elim, fun _ => ?_⟩
    refine xhv_of pl.obj ?_
    dsimp only [wpI, xop, xcall, xli, xlj, xlf, xld, xla, xlg, xst, xst2, xc1, pI, pJ, pF, pD, pR, pA, p1, p0, xpop, xpush, xsm, xhas, xif, xic, xsw, xrf, xret, xrtl, xrtf, xrtd, xrta, xrtv, xfit, xnew, cond_true, cond_false, f40, f41, f42, f43, List.length_cons, List.length_nil, Nat.reduceAdd, Nat.reduceSub, Nat.reduceMul, Nat.reduceBEq, List.map_cons, List.map_nil, List.headD_cons, List.getElem?_cons_zero, List.getElem?_cons_succ, List.set_cons_zero, List.set_cons_succ]
    refine xhi_of pl.won ?_
    rw [List.length_map, n1]
    show vp_in (nI (2 * i + t)) 264 ∧ _
    try simp (disch := omega) only [nI_add, n_and, n_or, n_xor, n_i31, nI_leI, nI_ltI, n_e0, n_eq, n_m1e, n_l0, n_g0, n_p0, n_q0, n_cl, n_in, n_sub, n_shr, n_shl, n_div, bI_0, n_01, n_11, bI_or, not_false_eq_true, forall_const, not_true_eq_false, false_imp_iff, true_imp_iff]
    refine ⟨by omega, ?_⟩
    dsimp only [slotO]
    try simp (disch := omega) only [nI_add, n_and, n_or, n_xor, n_i31, nI_leI, nI_ltI, n_e0, n_eq, n_m1e, n_l0, n_g0, n_p0, n_q0, n_cl, n_in, n_sub, n_shr, n_shl, n_div, bI_0, n_01, n_11, bI_or, not_false_eq_true, forall_const, not_true_eq_false, false_imp_iff, true_imp_iff]
    rw [bL_at (by omega)]
    refine ⟨fun z => ?_, fun z => ?_⟩
    · have z := (bI_0 _).mp z
      rw [z] at hq
      refine hK 1 _ _ _ _ _ _ _ _ rfl ?_
      dsimp only [k_L_isWonBy_1, wpI, xop, xcall, xli, xlj, xlf, xld, xla, xlg, xst, xst2, xc1, pI, pJ, pF, pD, pR, pA, p1, p0, xpop, xpush, xsm, xhas, xif, xic, xsw, xrf, xret, xrtl, xrtf, xrtd, xrta, xrtv, xfit, xnew, cond_true, cond_false, f40, f41, f42, f43, List.length_cons, List.length_nil, Nat.reduceAdd, Nat.reduceSub, Nat.reduceMul, Nat.reduceBEq, List.map_cons, List.map_nil, List.headD_cons, List.getElem?_cons_zero, List.getElem?_cons_succ, List.set_cons_zero, List.set_cons_succ]
      refine hK 2 _ _ _ _ _ _ _ _ rfl ?_
      dsimp only [k_L_isWonBy_2, wpI, xop, xcall, xli, xlj, xlf, xld, xla, xlg, xst, xst2, xc1, pI, pJ, pF, pD, pR, pA, p1, p0, xpop, xpush, xsm, xhas, xif, xic, xsw, xrf, xret, xrtl, xrtf, xrtd, xrta, xrtv, xfit, xnew, cond_true, cond_false, f40, f41, f42, f43, List.length_cons, List.length_nil, Nat.reduceAdd, Nat.reduceSub, Nat.reduceMul, Nat.reduceBEq, List.map_cons, List.map_nil, List.headD_cons, List.getElem?_cons_zero, List.getElem?_cons_succ, List.set_cons_zero, List.set_cons_succ]
      exact ⟨Or.inl rfl, Nat.le_refl _, Nat.le_refl _, hq⟩
    · have z := b_nf fun y => z ((bI_0 _).mpr y)
      rw [z] at hq
      refine hK 2 _ _ _ _ _ _ _ _ rfl ?_
      dsimp only [k_L_isWonBy_2, wpI, xop, xcall, xli, xlj, xlf, xld, xla, xlg, xst, xst2, xc1, pI, pJ, pF, pD, pR, pA, p1, p0, xpop, xpush, xsm, xhas, xif, xic, xsw, xrf, xret, xrtl, xrtf, xrtd, xrta, xrtv, xfit, xnew, cond_true, cond_false, f40, f41, f42, f43, List.length_cons, List.length_nil, Nat.reduceAdd, Nat.reduceSub, Nat.reduceMul, Nat.reduceBEq, List.map_cons, List.map_nil, List.headD_cons, List.getElem?_cons_zero, List.getElem?_cons_succ, List.set_cons_zero, List.set_cons_succ]
      exact ⟨Or.inr rfl, Nat.le_refl _, Nat.le_refl _, hq⟩
set_option maxRecDepth 100000 in
set_option maxHeartbeats 4000000 in
theorem ev_longestGame (d p a w lg sh most t m : Nat) (bar wo : Bool) (T : xTb) (h : xH) (pl : PlA h p a w lg sh most bar wo T) (ht : t < 2) (hm : m < 32768) :
    Ev xT (d + 2) N_L_longestGame [.ref p, .int (nI t), .int (nI m)] h (Rt (some (.int (nI (lonN T t m)))) h) NX := by
  refine Ev_intro t_L_longestGame (Nat.le_of_ble_eq_true rfl) ?_
  intro Q X hQ hX K hK
  show K 0 [some (.ref p), some (.int (nI t)), some (.int (nI m)), none] [] _ 0 0
  have hq := hQ _ _ ⟨rfl, rfl⟩
  unfold lonN at hq
  refine hK 0 _ _ _ _ _ _ _ _ rfl ?_
  dsimp only [k_L_longestGame_0, wpI, xop, xcall, xli, xlj, xlf, xld, xla, xlg, xst, xst2, xc1, pI, pJ, pF, pD, pR, pA, p1, p0, xpop, xpush, xsm, xhas, xif, xic, xsw, xrf, xret, xrtl, xrtf, xrtd, xrta, xrtv, xfit, xnew, cond_true, cond_false, f40, f41, f42, f43, List.length_cons, List.length_nil, Nat.reduceAdd, Nat.reduceSub, Nat.reduceMul, Nat.reduceBEq, List.map_cons, List.map_nil, List.headD_cons, List.getElem?_cons_zero, List.getElem?_cons_succ, List.set_cons_zero, List.set_cons_succ]
  refine xhv_of pl.obj ?_
  refine Ev_use (ev_slotOf _ p a t _ h _ pl.obj pl.shp pl.la ht hm) ?_
  unfold slotI
  dsimp only [wpI, xop, xcall, xli, xlj, xlf, xld, xla, xlg, xst, xst2, xc1, pI, pJ, pF, pD, pR, pA, p1, p0, xpop, xpush, xsm, xhas, xif, xic, xsw, xrf, xret, xrtl, xrtf, xrtd, xrta, xrtv, xfit, xnew, cond_true, cond_false, f40, f41, f42, f43, List.length_cons, List.length_nil, Nat.reduceAdd, Nat.reduceSub, Nat.reduceMul, Nat.reduceBEq, List.map_cons, List.map_nil, List.headD_cons, List.getElem?_cons_zero, List.getElem?_cons_succ, List.set_cons_zero, List.set_cons_succ]
  have n1 := pl.n2
  cases e : slotN m with
  | none =>
    rw [e] at hq
    refine ⟨fun z => (z rfl).elim, fun _ => ?_⟩
    refine hK 2 _ _ _ _ _ _ _ _ rfl ?_
    dsimp only [k_L_longestGame_2, wpI, xop, xcall, xli, xlj, xlf, xld, xla, xlg, xst, xst2, xc1, pI, pJ, pF, pD, pR, pA, p1, p0, xpop, xpush, xsm, xhas, xif, xic, xsw, xrf, xret, xrtl, xrtf, xrtd, xrta, xrtv, xfit, xnew, cond_true, cond_false, f40, f41, f42, f43, List.length_cons, List.length_nil, Nat.reduceAdd, Nat.reduceSub, Nat.reduceMul, Nat.reduceBEq, List.map_cons, List.map_nil, List.headD_cons, List.getElem?_cons_zero, List.getElem?_cons_succ, List.set_cons_zero, List.set_cons_succ]
    exact ⟨Nat.le_refl _, Nat.le_refl _, hq⟩
  | some i =>
    rw [e] at hq
    have hi := slotN_lt e
    show (¬ nI (2 * i + t) = -1 → _) ∧ (nI (2 * i + t) = -1 → _)
    refine ⟨fun _ => ?_, fun z => ((n_m1e (by omega)).mp z).elim⟩
    refine hK 1 _ _ _ _ _ _ _ _ rfl ?_
    dsimp only [k_L_longestGame_1, wpI, xop, xcall, xli, xlj, xlf, xld, xla, xlg, xst, xst2, xc1, pI, pJ, pF, pD, pR, pA, p1, p0, xpop, xpush, xsm, xhas, xif, xic, xsw, xrf, xret, xrtl, xrtf, xrtd, xrta, xrtv, xfit, xnew, cond_true, cond_false, f40, f41, f42, f43, List.length_cons, List.length_nil, Nat.reduceAdd, Nat.reduceSub, Nat.reduceMul, Nat.reduceBEq, List.map_cons, List.map_nil, List.headD_cons, List.getElem?_cons_zero, List.getElem?_cons_succ, List.set_cons_zero, List.set_cons_succ]
    refine xhv_of pl.obj ?_
    dsimp only [wpI, xop, xcall, xli, xlj, xlf, xld, xla, xlg, xst, xst2, xc1, pI, pJ, pF, pD, pR, pA, p1, p0, xpop, xpush, xsm, xhas, xif, xic, xsw, xrf, xret, xrtl, xrtf, xrtd, xrta, xrtv, xfit, xnew, cond_true, cond_false, f40, f41, f42, f43, List.length_cons, List.length_nil, Nat.reduceAdd, Nat.reduceSub, Nat.reduceMul, Nat.reduceBEq, List.map_cons, List.map_nil, List.headD_cons, List.getElem?_cons_zero, List.getElem?_cons_succ, List.set_cons_zero, List.set_cons_succ]
    refine xai_of pl.ll pl.lon ?_
    rw [List.length_map, n1]
    show vp_in (nI (2 * i + t)) 264 ∧ _
    try simp (disch := omega) only [nI_add, n_and, n_or, n_xor, n_i31, nI_leI, nI_ltI, n_e0, n_eq, n_m1e, n_l0, n_g0, n_p0, n_q0, n_cl, n_in, n_sub, n_shr, n_shl, n_div, bI_0, n_01, n_11, bI_or, not_false_eq_true, forall_const, not_true_eq_false, false_imp_iff, true_imp_iff]
    refine ⟨by omega, ?_⟩
    dsimp only [slotO]
    try simp (disch := omega) only [nI_add, n_and, n_or, n_xor, n_i31, nI_leI, nI_ltI, n_e0, n_eq, n_m1e, n_l0, n_g0, n_p0, n_q0, n_cl, n_in, n_sub, n_shr, n_shl, n_div, bI_0, n_01, n_11, bI_or, not_false_eq_true, forall_const, not_true_eq_false, false_imp_iff, true_imp_iff]
    rw [nL_at (by omega)]
    refine hK 2 _ _ _ _ _ _ _ _ rfl ?_
    dsimp only [k_L_longestGame_2, wpI, xop, xcall, xli, xlj, xlf, xld, xla, xlg, xst, xst2, xc1, pI, pJ, pF, pD, pR, pA, p1, p0, xpop, xpush, xsm, xhas, xif, xic, xsw, xrf, xret, xrtl, xrtf, xrtd, xrta, xrtv, xfit, xnew, cond_true, cond_false, f40, f41, f42, f43, List.length_cons, List.length_nil, Nat.reduceAdd, Nat.reduceSub, Nat.reduceMul, Nat.reduceBEq, List.map_cons, List.map_nil, List.headD_cons, List.getElem?_cons_zero, List.getElem?_cons_succ, List.set_cons_zero, List.set_cons_succ]
    exact ⟨Nat.le_refl _, Nat.le_refl _, hq⟩
set_option maxRecDepth 100000 in
set_option maxHeartbeats 4000000 in
theorem ev_shortestGame (d p a w lg sh most t m : Nat) (bar wo : Bool) (T : xTb) (h : xH) (pl : PlA h p a w lg sh most bar wo T) (ht : t < 2) (hm : m < 32768) :
    Ev xT (d + 2) N_L_shortestGame [.ref p, .int (nI t), .int (nI m)] h (Rt (some (.int (nI (shoN T t m)))) h) NX := by
  refine Ev_intro t_L_shortestGame (Nat.le_of_ble_eq_true rfl) ?_
  intro Q X hQ hX K hK
  show K 0 [some (.ref p), some (.int (nI t)), some (.int (nI m)), none] [] _ 0 0
  have hq := hQ _ _ ⟨rfl, rfl⟩
  unfold shoN at hq
  refine hK 0 _ _ _ _ _ _ _ _ rfl ?_
  dsimp only [k_L_shortestGame_0, wpI, xop, xcall, xli, xlj, xlf, xld, xla, xlg, xst, xst2, xc1, pI, pJ, pF, pD, pR, pA, p1, p0, xpop, xpush, xsm, xhas, xif, xic, xsw, xrf, xret, xrtl, xrtf, xrtd, xrta, xrtv, xfit, xnew, cond_true, cond_false, f40, f41, f42, f43, List.length_cons, List.length_nil, Nat.reduceAdd, Nat.reduceSub, Nat.reduceMul, Nat.reduceBEq, List.map_cons, List.map_nil, List.headD_cons, List.getElem?_cons_zero, List.getElem?_cons_succ, List.set_cons_zero, List.set_cons_succ]
  refine xhv_of pl.obj ?_
  refine Ev_use (ev_slotOf _ p a t _ h _ pl.obj pl.shp pl.la ht hm) ?_
  unfold slotI
  dsimp only [wpI, xop, xcall, xli, xlj, xlf, xld, xla, xlg, xst, xst2, xc1, pI, pJ, pF, pD, pR, pA, p1, p0, xpop, xpush, xsm, xhas, xif, xic, xsw, xrf, xret, xrtl, xrtf, xrtd, xrta, xrtv, xfit, xnew, cond_true, cond_false, f40, f41, f42, f43, List.length_cons, List.length_nil, Nat.reduceAdd, Nat.reduceSub, Nat.reduceMul, Nat.reduceBEq, List.map_cons, List.map_nil, List.headD_cons, List.getElem?_cons_zero, List.getElem?_cons_succ, List.set_cons_zero, List.set_cons_succ]
  have n1 := pl.n3
  cases e : slotN m with
  | none =>
    rw [e] at hq
    refine ⟨fun z => (z rfl).elim, fun _ => ?_⟩
    refine hK 2 _ _ _ _ _ _ _ _ rfl ?_
    dsimp only [k_L_shortestGame_2, wpI, xop, xcall, xli, xlj, xlf, xld, xla, xlg, xst, xst2, xc1, pI, pJ, pF, pD, pR, pA, p1, p0, xpop, xpush, xsm, xhas, xif, xic, xsw, xrf, xret, xrtl, xrtf, xrtd, xrta, xrtv, xfit, xnew, cond_true, cond_false, f40, f41, f42, f43, List.length_cons, List.length_nil, Nat.reduceAdd, Nat.reduceSub, Nat.reduceMul, Nat.reduceBEq, List.map_cons, List.map_nil, List.headD_cons, List.getElem?_cons_zero, List.getElem?_cons_succ, List.set_cons_zero, List.set_cons_succ]
    exact ⟨Nat.le_refl _, Nat.le_refl _, hq⟩
  | some i =>
    rw [e] at hq
    have hi := slotN_lt e
    show (¬ nI (2 * i + t) = -1 → _) ∧ (nI (2 * i + t) = -1 → _)
    refine ⟨fun _ => ?_, fun z => ((n_m1e (by omega)).mp z).elim⟩
    refine hK 1 _ _ _ _ _ _ _ _ rfl ?_
    dsimp only [k_L_shortestGame_1, wpI, xop, xcall, xli, xlj, xlf, xld, xla, xlg, xst, xst2, xc1, pI, pJ, pF, pD, pR, pA, p1, p0, xpop, xpush, xsm, xhas, xif, xic, xsw, xrf, xret, xrtl, xrtf, xrtd, xrta, xrtv, xfit, xnew, cond_true, cond_false, f40, f41, f42, f43, List.length_cons, List.length_nil, Nat.reduceAdd, Nat.reduceSub, Nat.reduceMul, Nat.reduceBEq, List.map_cons, List.map_nil, List.headD_cons, List.getElem?_cons_zero, List.getElem?_cons_succ, List.set_cons_zero, List.set_cons_succ]
    refine xhv_of pl.obj ?_
    dsimp only [wpI, xop, xcall, xli, xlj, xlf, xld, xla, xlg, xst, xst2, xc1, pI, pJ, pF, pD, pR, pA, p1, p0, xpop, xpush, xsm, xhas, xif, xic, xsw, xrf, xret, xrtl, xrtf, xrtd, xrta, xrtv, xfit, xnew, cond_true, cond_false, f40, f41, f42, f43, List.length_cons, List.length_nil, Nat.reduceAdd, Nat.reduceSub, Nat.reduceMul, Nat.reduceBEq, List.map_cons, List.map_nil, List.headD_cons, List.getElem?_cons_zero, List.getElem?_cons_succ, List.set_cons_zero, List.set_cons_succ]
    refine xai_of pl.ls pl.sho ?_
    rw [List.length_map, n1]
    show vp_in (nI (2 * i + t)) 264 ∧ _
    try simp (disch := omega) only [nI_add, n_and, n_or, n_xor, n_i31, nI_leI, nI_ltI, n_e0, n_eq, n_m1e, n_l0, n_g0, n_p0, n_q0, n_cl, n_in, n_sub, n_shr, n_shl, n_div, bI_0, n_01, n_11, bI_or, not_false_eq_true, forall_const, not_true_eq_false, false_imp_iff, true_imp_iff]
    refine ⟨by omega, ?_⟩
    dsimp only [slotO]
    try simp (disch := omega) only [nI_add, n_and, n_or, n_xor, n_i31, nI_leI, nI_ltI, n_e0, n_eq, n_m1e, n_l0, n_g0, n_p0, n_q0, n_cl, n_in, n_sub, n_shr, n_shl, n_div, bI_0, n_01, n_11, bI_or, not_false_eq_true, forall_const, not_true_eq_false, false_imp_iff, true_imp_iff]
    rw [nL_at (by omega)]
    refine hK 2 _ _ _ _ _ _ _ _ rfl ?_
    dsimp only [k_L_shortestGame_2, wpI, xop, xcall, xli, xlj, xlf, xld, xla, xlg, xst, xst2, xc1, pI, pJ, pF, pD, pR, pA, p1, p0, xpop, xpush, xsm, xhas, xif, xic, xsw, xrf, xret, xrtl, xrtf, xrtd, xrta, xrtv, xfit, xnew, cond_true, cond_false, f40, f41, f42, f43, List.length_cons, List.length_nil, Nat.reduceAdd, Nat.reduceSub, Nat.reduceMul, Nat.reduceBEq, List.map_cons, List.map_nil, List.headD_cons, List.getElem?_cons_zero, List.getElem?_cons_succ, List.set_cons_zero, List.set_cons_succ]
    exact ⟨Nat.le_refl _, Nat.le_refl _, hq⟩
def cW (T : xTb) (t : Nat) : Nat → Nat → Nat → Nat
  | 0, _, s => s
  | j + 1, i, s => cW T t j (i + 1) (s + if T.1.getD (2 * i + t) false then 1 else 0)
set_option maxRecDepth 100000 in
set_option maxHeartbeats 4000000 in
theorem ev_shapesWonBy (d p a w lg sh most t : Nat) (bar wo : Bool) (T : xTb) (h : xH) (pl : PlA h p a w lg sh most bar wo T) (ht : t < 2) :
    Ev xT (d + 2) N_L_shapesWonBy [.ref p, .int (nI t)] h (Rt (some (.int (nI (cW T t 132 0 0)))) h) NX := by
  refine Ev_intro t_L_shapesWonBy (Nat.le_of_ble_eq_true rfl) ?_
  intro Q X hQ hX K hK
  show K 0 [some (.ref p), some (.int (nI t)), none, none] [] _ 0 0
  have hq := hQ _ _ ⟨rfl, rfl⟩
  have n1 := pl.n1
  have loop : ∀ (j i s : Nat), i + j = 132 → s ≤ i → Q (some (.int (nI (cW T t j i s)))) h → K 1 [some (.ref p), some (.int (nI t)), some (.int (nI s)), some (.int (nI i))] [] h 0 0 := by
    intro j
    induction j with
    | zero =>
      intro i s hi hs hq
      refine hK 1 _ _ _ _ _ _ _ _ rfl ?_
      dsimp only [k_L_shapesWonBy_1, wpI, xop, xcall, xli, xlj, xlf, xld, xla, xlg, xst, xst2, xc1, pI, pJ, pF, pD, pR, pA, p1, p0, xpop, xpush, xsm, xhas, xif, xic, xsw, xrf, xret, xrtl, xrtf, xrtd, xrta, xrtv, xfit, xnew, cond_true, cond_false, f40, f41, f42, f43, List.length_cons, List.length_nil, Nat.reduceAdd, Nat.reduceSub, Nat.reduceMul, Nat.reduceBEq, List.map_cons, List.map_nil, List.headD_cons, List.getElem?_cons_zero, List.getElem?_cons_succ, List.set_cons_zero, List.set_cons_succ]
      refine xhv_of pl.obj ?_
      dsimp only [wpI, xop, xcall, xli, xlj, xlf, xld, xla, xlg, xst, xst2, xc1, pI, pJ, pF, pD, pR, pA, p1, p0, xpop, xpush, xsm, xhas, xif, xic, xsw, xrf, xret, xrtl, xrtf, xrtd, xrta, xrtv, xfit, xnew, cond_true, cond_false, f40, f41, f42, f43, List.length_cons, List.length_nil, Nat.reduceAdd, Nat.reduceSub, Nat.reduceMul, Nat.reduceBEq, List.map_cons, List.map_nil, List.headD_cons, List.getElem?_cons_zero, List.getElem?_cons_succ, List.set_cons_zero, List.set_cons_succ]
      refine xal_of pl.la pl.shp ?_
      rw [List.length_map, shapes_len]
      try simp (disch := omega) only [nI_add, n_and, n_or, n_xor, n_i31, nI_leI, nI_ltI, n_e0, n_eq, n_m1e, n_l0, n_g0, n_p0, n_q0, n_cl, n_in, n_sub, n_shr, n_shl, n_div, bI_0, n_01, n_11, bI_or, not_false_eq_true, forall_const, not_true_eq_false, false_imp_iff, true_imp_iff]
      refine br_t (by omega) ?_
      refine hK 4 _ _ _ _ _ _ _ _ rfl ?_
      dsimp only [k_L_shapesWonBy_4, wpI, xop, xcall, xli, xlj, xlf, xld, xla, xlg, xst, xst2, xc1, pI, pJ, pF, pD, pR, pA, p1, p0, xpop, xpush, xsm, xhas, xif, xic, xsw, xrf, xret, xrtl, xrtf, xrtd, xrta, xrtv, xfit, xnew, cond_true, cond_false, f40, f41, f42, f43, List.length_cons, List.length_nil, Nat.reduceAdd, Nat.reduceSub, Nat.reduceMul, Nat.reduceBEq, List.map_cons, List.map_nil, List.headD_cons, List.getElem?_cons_zero, List.getElem?_cons_succ, List.set_cons_zero, List.set_cons_succ]
      exact ⟨Nat.le_refl _, Nat.le_refl _, hq⟩
    | succ j ih =>
      intro i s hi hs hq
      unfold cW at hq
      have go3 : ∀ x, s + x ≤ i + 1 → Q (some (.int (nI (cW T t j (i + 1) (s + x))))) h → K 3 [some (.ref p), some (.int (nI t)), some (.int (nI s)), some (.int (nI i))] [.int (nI x), .int (nI s)] h 0 0 := by
        intro x hx hq
        refine hK 3 _ _ _ _ _ _ _ _ rfl ?_
        dsimp only [k_L_shapesWonBy_3, wpI, xop, xcall, xli, xlj, xlf, xld, xla, xlg, xst, xst2, xc1, pI, pJ, pF, pD, pR, pA, p1, p0, xpop, xpush, xsm, xhas, xif, xic, xsw, xrf, xret, xrtl, xrtf, xrtd, xrta, xrtv, xfit, xnew, cond_true, cond_false, f40, f41, f42, f43, List.length_cons, List.length_nil, Nat.reduceAdd, Nat.reduceSub, Nat.reduceMul, Nat.reduceBEq, List.map_cons, List.map_nil, List.headD_cons, List.getElem?_cons_zero, List.getElem?_cons_succ, List.set_cons_zero, List.set_cons_succ]
        try simp (disch := omega) only [nI_add, n_and, n_or, n_xor, n_i31, nI_leI, nI_ltI, n_e0, n_eq, n_m1e, n_l0, n_g0, n_p0, n_q0, n_cl, n_in, n_sub, n_shr, n_shl, n_div, bI_0, n_01, n_11, bI_or, not_false_eq_true, forall_const, not_true_eq_false, false_imp_iff, true_imp_iff]
        exact ih (i + 1) (s + x) (by omega) hx hq
      refine hK 1 _ _ _ _ _ _ _ _ rfl ?_
      dsimp only [k_L_shapesWonBy_1, wpI, xop, xcall, xli, xlj, xlf, xld, xla, xlg, xst, xst2, xc1, pI, pJ, pF, pD, pR, pA, p1, p0, xpop, xpush, xsm, xhas, xif, xic, xsw, xrf, xret, xrtl, xrtf, xrtd, xrta, xrtv, xfit, xnew, cond_true, cond_false, f40, f41, f42, f43, List.length_cons, List.length_nil, Nat.reduceAdd, Nat.reduceSub, Nat.reduceMul, Nat.reduceBEq, List.map_cons, List.map_nil, List.headD_cons, List.getElem?_cons_zero, List.getElem?_cons_succ, List.set_cons_zero, List.set_cons_succ]
      refine xhv_of pl.obj ?_
      dsimp only [wpI, xop, xcall, xli, xlj, xlf, xld, xla, xlg, xst, xst2, xc1, pI, pJ, pF, pD, pR, pA, p1, p0, xpop, xpush, xsm, xhas, xif, xic, xsw, xrf, xret, xrtl, xrtf, xrtd, xrta, xrtv, xfit, xnew, cond_true, cond_false, f40, f41, f42, f43, List.length_cons, List.length_nil, Nat.reduceAdd, Nat.reduceSub, Nat.reduceMul, Nat.reduceBEq, List.map_cons, List.map_nil, List.headD_cons, List.getElem?_cons_zero, List.getElem?_cons_succ, List.set_cons_zero, List.set_cons_succ]
      refine xal_of pl.la pl.shp ?_
      rw [List.length_map, shapes_len]
      try simp (disch := omega) only [nI_add, n_and, n_or, n_xor, n_i31, nI_leI, nI_ltI, n_e0, n_eq, n_m1e, n_l0, n_g0, n_p0, n_q0, n_cl, n_in, n_sub, n_shr, n_shl, n_div, bI_0, n_01, n_11, bI_or, not_false_eq_true, forall_const, not_true_eq_false, false_imp_iff, true_imp_iff]
      refine br_f (by omega) ?_
      refine xhv_of pl.obj ?_
      dsimp only [wpI, xop, xcall, xli, xlj, xlf, xld, xla, xlg, xst, xst2, xc1, pI, pJ, pF, pD, pR, pA, p1, p0, xpop, xpush, xsm, xhas, xif, xic, xsw, xrf, xret, xrtl, xrtf, xrtd, xrta, xrtv, xfit, xnew, cond_true, cond_false, f40, f41, f42, f43, List.length_cons, List.length_nil, Nat.reduceAdd, Nat.reduceSub, Nat.reduceMul, Nat.reduceBEq, List.map_cons, List.map_nil, List.headD_cons, List.getElem?_cons_zero, List.getElem?_cons_succ, List.set_cons_zero, List.set_cons_succ]
      refine xhi_of pl.won ?_
      rw [List.length_map, n1, pk_mul]
      try simp (disch := omega) only [nI_add, n_and, n_or, n_xor, n_i31, nI_leI, nI_ltI, n_e0, n_eq, n_m1e, n_l0, n_g0, n_p0, n_q0, n_cl, n_in, n_sub, n_shr, n_shl, n_div, bI_0, n_01, n_11, bI_or, not_false_eq_true, forall_const, not_true_eq_false, false_imp_iff, true_imp_iff]
      refine ⟨by omega, ?_⟩
      rw [bL_at (by omega)]
      refine ⟨fun z => ?_, fun z => ?_⟩
      · have z := (bI_0 _).mp z
        simp only [z, Bool.false_eq_true, if_false] at hq
        refine hK 2 _ _ _ _ _ _ _ _ rfl ?_
        dsimp only [k_L_shapesWonBy_2, wpI, xop, xcall, xli, xlj, xlf, xld, xla, xlg, xst, xst2, xc1, pI, pJ, pF, pD, pR, pA, p1, p0, xpop, xpush, xsm, xhas, xif, xic, xsw, xrf, xret, xrtl, xrtf, xrtd, xrta, xrtv, xfit, xnew, cond_true, cond_false, f40, f41, f42, f43, List.length_cons, List.length_nil, Nat.reduceAdd, Nat.reduceSub, Nat.reduceMul, Nat.reduceBEq, List.map_cons, List.map_nil, List.headD_cons, List.getElem?_cons_zero, List.getElem?_cons_succ, List.set_cons_zero, List.set_cons_succ]
        exact go3 0 (by omega) hq
      · have z := b_nf fun y => z ((bI_0 _).mpr y)
        simp only [z, if_true] at hq
        exact go3 1 (by omega) hq
  refine hK 0 _ _ _ _ _ _ _ _ rfl ?_
  dsimp only [k_L_shapesWonBy_0, wpI, xop, xcall, xli, xlj, xlf, xld, xla, xlg, xst, xst2, xc1, pI, pJ, pF, pD, pR, pA, p1, p0, xpop, xpush, xsm, xhas, xif, xic, xsw, xrf, xret, xrtl, xrtf, xrtd, xrta, xrtv, xfit, xnew, cond_true, cond_false, f40, f41, f42, f43, List.length_cons, List.length_nil, Nat.reduceAdd, Nat.reduceSub, Nat.reduceMul, Nat.reduceBEq, List.map_cons, List.map_nil, List.headD_cons, List.getElem?_cons_zero, List.getElem?_cons_succ, List.set_cons_zero, List.set_cons_succ]
  exact loop 132 0 0 rfl (by decide) hq
def cO (T : xTb) : Nat → Nat → Nat → Nat
  | 0, _, s => s
  | j + 1, i, s => cO T j (i + 1) (s + if T.2.1.getD (2 * i) 0 = 0 ∧ T.2.1.getD (2 * i + 1) 0 = 0 then 1 else 0)
set_option maxRecDepth 100000 in
set_option maxHeartbeats 4000000 in
theorem ev_shapesOver (d p a w lg sh most : Nat) (bar wo : Bool) (T : xTb) (h : xH) (pl : PlA h p a w lg sh most bar wo T) (hb : ∀ i, T.2.1.getD i 0 < 2 ^ 31) :
    Ev xT (d + 2) N_L_shapesOver [.ref p] h (Rt (some (.int (nI (cO T 132 0 0)))) h) NX := by
  refine Ev_intro t_L_shapesOver (Nat.le_of_ble_eq_true rfl) ?_
  intro Q X hQ hX K hK
  show K 0 [some (.ref p), none, none] [] _ 0 0
  have hq := hQ _ _ ⟨rfl, rfl⟩
  have n1 := pl.n2
  have loop : ∀ (j i s : Nat), i + j = 132 → s ≤ i → Q (some (.int (nI (cO T j i s)))) h → K 1 [some (.ref p), some (.int (nI s)), some (.int (nI i))] [] h 0 0 := by
    intro j
    induction j with
    | zero =>
      intro i s hi hs hq
      refine hK 1 _ _ _ _ _ _ _ _ rfl ?_
      dsimp only [k_L_shapesOver_1, wpI, xop, xcall, xli, xlj, xlf, xld, xla, xlg, xst, xst2, xc1, pI, pJ, pF, pD, pR, pA, p1, p0, xpop, xpush, xsm, xhas, xif, xic, xsw, xrf, xret, xrtl, xrtf, xrtd, xrta, xrtv, xfit, xnew, cond_true, cond_false, f40, f41, f42, f43, List.length_cons, List.length_nil, Nat.reduceAdd, Nat.reduceSub, Nat.reduceMul, Nat.reduceBEq, List.map_cons, List.map_nil, List.headD_cons, List.getElem?_cons_zero, List.getElem?_cons_succ, List.set_cons_zero, List.set_cons_succ]
      refine xhv_of pl.obj ?_
      dsimp only [wpI, xop, xcall, xli, xlj, xlf, xld, xla, xlg, xst, xst2, xc1, pI, pJ, pF, pD, pR, pA, p1, p0, xpop, xpush, xsm, xhas, xif, xic, xsw, xrf, xret, xrtl, xrtf, xrtd, xrta, xrtv, xfit, xnew, cond_true, cond_false, f40, f41, f42, f43, List.length_cons, List.length_nil, Nat.reduceAdd, Nat.reduceSub, Nat.reduceMul, Nat.reduceBEq, List.map_cons, List.map_nil, List.headD_cons, List.getElem?_cons_zero, List.getElem?_cons_succ, List.set_cons_zero, List.set_cons_succ]
      refine xal_of pl.la pl.shp ?_
      rw [List.length_map, shapes_len]
      try simp (disch := omega) only [nI_add, n_and, n_or, n_xor, n_i31, nI_leI, nI_ltI, n_e0, n_eq, n_m1e, n_l0, n_g0, n_p0, n_q0, n_cl, n_in, n_sub, n_shr, n_shl, n_div, bI_0, n_01, n_11, bI_or, not_false_eq_true, forall_const, not_true_eq_false, false_imp_iff, true_imp_iff]
      refine br_t (by omega) ?_
      refine hK 4 _ _ _ _ _ _ _ _ rfl ?_
      dsimp only [k_L_shapesOver_4, wpI, xop, xcall, xli, xlj, xlf, xld, xla, xlg, xst, xst2, xc1, pI, pJ, pF, pD, pR, pA, p1, p0, xpop, xpush, xsm, xhas, xif, xic, xsw, xrf, xret, xrtl, xrtf, xrtd, xrta, xrtv, xfit, xnew, cond_true, cond_false, f40, f41, f42, f43, List.length_cons, List.length_nil, Nat.reduceAdd, Nat.reduceSub, Nat.reduceMul, Nat.reduceBEq, List.map_cons, List.map_nil, List.headD_cons, List.getElem?_cons_zero, List.getElem?_cons_succ, List.set_cons_zero, List.set_cons_succ]
      exact ⟨Nat.le_refl _, Nat.le_refl _, hq⟩
    | succ j ih =>
      intro i s hi hs hq
      unfold cO at hq
      have go3 : ∀ x, s + x ≤ i + 1 → Q (some (.int (nI (cO T j (i + 1) (s + x))))) h → K 3 [some (.ref p), some (.int (nI s)), some (.int (nI i))] [.int (nI x), .int (nI s)] h 0 0 := by
        intro x hx hq
        refine hK 3 _ _ _ _ _ _ _ _ rfl ?_
        dsimp only [k_L_shapesOver_3, wpI, xop, xcall, xli, xlj, xlf, xld, xla, xlg, xst, xst2, xc1, pI, pJ, pF, pD, pR, pA, p1, p0, xpop, xpush, xsm, xhas, xif, xic, xsw, xrf, xret, xrtl, xrtf, xrtd, xrta, xrtv, xfit, xnew, cond_true, cond_false, f40, f41, f42, f43, List.length_cons, List.length_nil, Nat.reduceAdd, Nat.reduceSub, Nat.reduceMul, Nat.reduceBEq, List.map_cons, List.map_nil, List.headD_cons, List.getElem?_cons_zero, List.getElem?_cons_succ, List.set_cons_zero, List.set_cons_succ]
        try simp (disch := omega) only [nI_add, n_and, n_or, n_xor, n_i31, nI_leI, nI_ltI, n_e0, n_eq, n_m1e, n_l0, n_g0, n_p0, n_q0, n_cl, n_in, n_sub, n_shr, n_shl, n_div, bI_0, n_01, n_11, bI_or, not_false_eq_true, forall_const, not_true_eq_false, false_imp_iff, true_imp_iff]
        exact ih (i + 1) (s + x) (by omega) hx hq
      have h1 := hb (2 * i)
      have h2 := hb (2 * i + 1)
      refine hK 1 _ _ _ _ _ _ _ _ rfl ?_
      dsimp only [k_L_shapesOver_1, wpI, xop, xcall, xli, xlj, xlf, xld, xla, xlg, xst, xst2, xc1, pI, pJ, pF, pD, pR, pA, p1, p0, xpop, xpush, xsm, xhas, xif, xic, xsw, xrf, xret, xrtl, xrtf, xrtd, xrta, xrtv, xfit, xnew, cond_true, cond_false, f40, f41, f42, f43, List.length_cons, List.length_nil, Nat.reduceAdd, Nat.reduceSub, Nat.reduceMul, Nat.reduceBEq, List.map_cons, List.map_nil, List.headD_cons, List.getElem?_cons_zero, List.getElem?_cons_succ, List.set_cons_zero, List.set_cons_succ]
      refine xhv_of pl.obj ?_
      dsimp only [wpI, xop, xcall, xli, xlj, xlf, xld, xla, xlg, xst, xst2, xc1, pI, pJ, pF, pD, pR, pA, p1, p0, xpop, xpush, xsm, xhas, xif, xic, xsw, xrf, xret, xrtl, xrtf, xrtd, xrta, xrtv, xfit, xnew, cond_true, cond_false, f40, f41, f42, f43, List.length_cons, List.length_nil, Nat.reduceAdd, Nat.reduceSub, Nat.reduceMul, Nat.reduceBEq, List.map_cons, List.map_nil, List.headD_cons, List.getElem?_cons_zero, List.getElem?_cons_succ, List.set_cons_zero, List.set_cons_succ]
      refine xal_of pl.la pl.shp ?_
      rw [List.length_map, shapes_len]
      try simp (disch := omega) only [nI_add, n_and, n_or, n_xor, n_i31, nI_leI, nI_ltI, n_e0, n_eq, n_m1e, n_l0, n_g0, n_p0, n_q0, n_cl, n_in, n_sub, n_shr, n_shl, n_div, bI_0, n_01, n_11, bI_or, not_false_eq_true, forall_const, not_true_eq_false, false_imp_iff, true_imp_iff]
      refine br_f (by omega) ?_
      refine xhv_of pl.obj ?_
      dsimp only [wpI, xop, xcall, xli, xlj, xlf, xld, xla, xlg, xst, xst2, xc1, pI, pJ, pF, pD, pR, pA, p1, p0, xpop, xpush, xsm, xhas, xif, xic, xsw, xrf, xret, xrtl, xrtf, xrtd, xrta, xrtv, xfit, xnew, cond_true, cond_false, f40, f41, f42, f43, List.length_cons, List.length_nil, Nat.reduceAdd, Nat.reduceSub, Nat.reduceMul, Nat.reduceBEq, List.map_cons, List.map_nil, List.headD_cons, List.getElem?_cons_zero, List.getElem?_cons_succ, List.set_cons_zero, List.set_cons_succ]
      refine xai_of pl.ll pl.lon ?_
      rw [List.length_map, n1, pk_mul]
      try simp (disch := omega) only [nI_add, n_and, n_or, n_xor, n_i31, nI_leI, nI_ltI, n_e0, n_eq, n_m1e, n_l0, n_g0, n_p0, n_q0, n_cl, n_in, n_sub, n_shr, n_shl, n_div, bI_0, n_01, n_11, bI_or, not_false_eq_true, forall_const, not_true_eq_false, false_imp_iff, true_imp_iff]
      refine ⟨by omega, ?_⟩
      rw [nL_at (by omega)]
      try simp (disch := omega) only [nI_add, n_and, n_or, n_xor, n_i31, nI_leI, nI_ltI, n_e0, n_eq, n_m1e, n_l0, n_g0, n_p0, n_q0, n_cl, n_in, n_sub, n_shr, n_shl, n_div, bI_0, n_01, n_11, bI_or, not_false_eq_true, forall_const, not_true_eq_false, false_imp_iff, true_imp_iff]
      refine ⟨fun z => ?_, fun z => ?_⟩
      · rw [if_neg (fun y => z y.1)] at hq
        refine hK 2 _ _ _ _ _ _ _ _ rfl ?_
        dsimp only [k_L_shapesOver_2, wpI, xop, xcall, xli, xlj, xlf, xld, xla, xlg, xst, xst2, xc1, pI, pJ, pF, pD, pR, pA, p1, p0, xpop, xpush, xsm, xhas, xif, xic, xsw, xrf, xret, xrtl, xrtf, xrtd, xrta, xrtv, xfit, xnew, cond_true, cond_false, f40, f41, f42, f43, List.length_cons, List.length_nil, Nat.reduceAdd, Nat.reduceSub, Nat.reduceMul, Nat.reduceBEq, List.map_cons, List.map_nil, List.headD_cons, List.getElem?_cons_zero, List.getElem?_cons_succ, List.set_cons_zero, List.set_cons_succ]
        exact go3 0 (by omega) hq
      · refine xhv_of pl.obj ?_
        dsimp only [wpI, xop, xcall, xli, xlj, xlf, xld, xla, xlg, xst, xst2, xc1, pI, pJ, pF, pD, pR, pA, p1, p0, xpop, xpush, xsm, xhas, xif, xic, xsw, xrf, xret, xrtl, xrtf, xrtd, xrta, xrtv, xfit, xnew, cond_true, cond_false, f40, f41, f42, f43, List.length_cons, List.length_nil, Nat.reduceAdd, Nat.reduceSub, Nat.reduceMul, Nat.reduceBEq, List.map_cons, List.map_nil, List.headD_cons, List.getElem?_cons_zero, List.getElem?_cons_succ, List.set_cons_zero, List.set_cons_succ]
        refine xai_of pl.ll pl.lon ?_
        rw [List.length_map, n1]
        try simp (disch := omega) only [nI_add, n_and, n_or, n_xor, n_i31, nI_leI, nI_ltI, n_e0, n_eq, n_m1e, n_l0, n_g0, n_p0, n_q0, n_cl, n_in, n_sub, n_shr, n_shl, n_div, bI_0, n_01, n_11, bI_or, not_false_eq_true, forall_const, not_true_eq_false, false_imp_iff, true_imp_iff]
        refine ⟨by omega, ?_⟩
        rw [nL_at (by omega)]
        try simp (disch := omega) only [nI_add, n_and, n_or, n_xor, n_i31, nI_leI, nI_ltI, n_e0, n_eq, n_m1e, n_l0, n_g0, n_p0, n_q0, n_cl, n_in, n_sub, n_shr, n_shl, n_div, bI_0, n_01, n_11, bI_or, not_false_eq_true, forall_const, not_true_eq_false, false_imp_iff, true_imp_iff]
        refine ⟨fun z2 => ?_, fun z2 => ?_⟩
        · rw [if_neg (fun y => z2 y.2)] at hq
          refine hK 2 _ _ _ _ _ _ _ _ rfl ?_
          dsimp only [k_L_shapesOver_2, wpI, xop, xcall, xli, xlj, xlf, xld, xla, xlg, xst, xst2, xc1, pI, pJ, pF, pD, pR, pA, p1, p0, xpop, xpush, xsm, xhas, xif, xic, xsw, xrf, xret, xrtl, xrtf, xrtd, xrta, xrtv, xfit, xnew, cond_true, cond_false, f40, f41, f42, f43, List.length_cons, List.length_nil, Nat.reduceAdd, Nat.reduceSub, Nat.reduceMul, Nat.reduceBEq, List.map_cons, List.map_nil, List.headD_cons, List.getElem?_cons_zero, List.getElem?_cons_succ, List.set_cons_zero, List.set_cons_succ]
          exact go3 0 (by omega) hq
        · rw [if_pos ⟨z, z2⟩] at hq
          exact go3 1 (by omega) hq
  refine hK 0 _ _ _ _ _ _ _ _ rfl ?_
  dsimp only [k_L_shapesOver_0, wpI, xop, xcall, xli, xlj, xlf, xld, xla, xlg, xst, xst2, xc1, pI, pJ, pF, pD, pR, pA, p1, p0, xpop, xpush, xsm, xhas, xif, xic, xsw, xrf, xret, xrtl, xrtf, xrtd, xrta, xrtv, xfit, xnew, cond_true, cond_false, f40, f41, f42, f43, List.length_cons, List.length_nil, Nat.reduceAdd, Nat.reduceSub, Nat.reduceMul, Nat.reduceBEq, List.map_cons, List.map_nil, List.headD_cons, List.getElem?_cons_zero, List.getElem?_cons_succ, List.set_cons_zero, List.set_cons_succ]
  exact loop 132 0 0 rfl (by decide) hq
end
section
/-! ===== Play: played out ===== -/
theorem set_a (h0 l : xH) (c : xC) (i : Nat) : (h0 ++ l).set (h0.length + i) c = h0 ++ l.set i c := by
  rw [List.set_append_right _ _ (Nat.le_add_right _ _), Nat.add_sub_cancel_left]
theorem get_a (h0 l : xH) (i : Nat) : (h0 ++ l)[h0.length + i]? = l[i]? := by
  rw [List.getElem?_append_right (Nat.le_add_right _ _), Nat.add_sub_cancel_left]
/-- the heap with a Play at its end -/
def hP (h0 : xH) (a most : Nat) (bar wo : Bool) (T : xTb) : xH := h0 ++ [(5, [], [.ref a, .int (nI most), .int (bI bar), .int (bI wo), .ref (h0.length + 1), .ref (h0.length + 2), .ref (h0.length + 3)]), (2, T.1.map bI, []), (0, T.2.1.map nI, []), (0, T.2.2.map nI, [])]
def tb3 (T : xTb) : Prop := T.1.length = 264 ∧ T.2.1.length = 264 ∧ T.2.2.length = 264
theorem hP_A {h0 : xH} {a most : Nat} {bar wo : Bool} {T : xTb} (ha : h0[a]? = some (0, shapesN.map nI, [])) (hl : h0.length < 900) (n : tb3 T) :
    PlA (hP h0 a most bar wo T) h0.length a (h0.length + 1) (h0.length + 2) (h0.length + 3) most bar wo T := by
  have hal : a < h0.length := (List.getElem?_eq_some_iff.mp ha).1
  refine ⟨?_, ?_, ?_, ?_, ?_, by omega, by omega, by omega, n.1, n.2.1, n.2.2⟩
  · exact get_a h0 _ 0
  · unfold hP
    rw [List.getElem?_append_left hal]
    exact ha
  · exact get_a h0 _ 1
  · exact get_a h0 _ 2
  · exact get_a h0 _ 3
/-- what is known while a shape is played out: over, wins, high, low -/
abbrev xPo : Type := Bool × Bool × Nat × Nat
def poS (T : xTb) (s : Nat) (x : xPo) : xPo := (false, x.2.1 || !T.1.getD s false, max x.2.2.1 (T.2.1.getD s 0 + 1), if x.1 then T.2.2.getD s 0 + 1 else min x.2.2.2 (T.2.2.getD s 0 + 1))
def poO (T : xTb) (o : Option Nat) (x : xPo) : xPo := match o with
  | some s => poS T s x
  | none => x
/-- the numbers of bottles b, b+1, .. -/
def poB (T : xTb) (bar : Bool) (t m r : Nat) : Nat → Nat → xPo → xPo
  | 0, _, x => x
  | j + 1, b, x => poB T bar t m r j (b + 1) (poO T (sbO bar t m r b) x)
def poR (T : xTb) (bar : Bool) (t m most : Nat) : Nat → Nat → xPo → xPo
  | 0, _, x => x
  | j + 1, r, x => poR T bar t m most j (r + 1) (poB T bar t m r most 1 x)
def poN (T : xTb) (bar : Bool) (t m most : Nat) : xPo := poR T bar t m most 5 0 (true, false, 0, 0)
def poT (T : xTb) (bar wo : Bool) (most t i : Nat) : xTb :=
  let x := poN T bar t (gS i) most
  (T.1.set (2 * i + t) (if x.1 then wo else x.2.1), T.2.1.set (2 * i + t) x.2.2.1, T.2.2.set (2 * i + t) x.2.2.2)
def tbB (T : xTb) (B : Nat) : Prop := (∀ i, T.2.1.getD i 0 ≤ B) ∧ ∀ i, T.2.2.getD i 0 ≤ B
theorem poS_le {T : xTb} {B s : Nat} {x : xPo} (hT : tbB T B) (hx : x.2.2.1 ≤ B + 1 ∧ x.2.2.2 ≤ B + 1) : (poS T s x).2.2.1 ≤ B + 1 ∧ (poS T s x).2.2.2 ≤ B + 1 := by
  have h1 := hT.1 s
  have h2 := hT.2 s
  unfold poS
  refine ⟨Nat.max_le.mpr ⟨hx.1, by omega⟩, ?_⟩
  show (if x.1 = true then _ else _) ≤ B + 1
  split
  · omega
  · exact Nat.le_trans (Nat.min_le_left _ _) hx.2
theorem poO_le {T : xTb} {B : Nat} {o : Option Nat} {x : xPo} (hT : tbB T B) (hx : x.2.2.1 ≤ B + 1 ∧ x.2.2.2 ≤ B + 1) : (poO T o x).2.2.1 ≤ B + 1 ∧ (poO T o x).2.2.2 ≤ B + 1 := by
  cases o with
  | none => exact hx
  | some s => exact poS_le hT hx
theorem poB_le {T : xTb} {B t m r : Nat} {bar : Bool} (hT : tbB T B) : ∀ (j b : Nat) (x : xPo), (x.2.2.1 ≤ B + 1 ∧ x.2.2.2 ≤ B + 1) → (poB T bar t m r j b x).2.2.1 ≤ B + 1 ∧ (poB T bar t m r j b x).2.2.2 ≤ B + 1
  | 0, _, _, hx => hx
  | j + 1, _, _, hx => poB_le hT j _ _ (poO_le hT hx)
theorem poR_le {T : xTb} {B t m most : Nat} {bar : Bool} (hT : tbB T B) : ∀ (j r : Nat) (x : xPo), (x.2.2.1 ≤ B + 1 ∧ x.2.2.2 ≤ B + 1) → (poR T bar t m most j r x).2.2.1 ≤ B + 1 ∧ (poR T bar t m most j r x).2.2.2 ≤ B + 1
  | 0, _, _, hx => hx
  | j + 1, _, _, hx => poR_le hT j _ _ (poB_le hT _ _ _ hx)
theorem poN_le {T : xTb} {B t m most : Nat} {bar : Bool} (hT : tbB T B) : (poN T bar t m most).2.2.1 ≤ B + 1 ∧ (poN T bar t m most).2.2.2 ≤ B + 1 := poR_le hT _ _ _ ⟨Nat.zero_le _, Nat.zero_le _⟩
theorem getD_set_le {l : List Nat} {i j v B : Nat} (h : ∀ k, l.getD k 0 ≤ B) (hv : v ≤ B + 1) : (l.set i v).getD j 0 ≤ B + 1 := by
  have hj := h j
  rw [List.getD_eq_getElem?_getD] at hj ⊢
  rw [List.getElem?_set]
  by_cases e : i = j
  · rw [if_pos e]
    by_cases e2 : i < l.length
    · rw [if_pos e2]; exact hv
    · rw [if_neg e2]; exact Nat.zero_le _
  · rw [if_neg e]; omega
theorem poT_le {T : xTb} {B t i most : Nat} {bar wo : Bool} (hT : tbB T B) : tbB (poT T bar wo most t i) (B + 1) :=
  ⟨fun k => getD_set_le hT.1 (poN_le hT).1, fun k => getD_set_le hT.2 (poN_le hT).2⟩
theorem poT_n {T : xTb} {t i most : Nat} {bar wo : Bool} (n : tb3 T) : tb3 (poT T bar wo most t i) :=
  ⟨List.length_set.trans n.1, List.length_set.trans n.2.1, List.length_set.trans n.2.2⟩
end
section
theorem nar_b (v : Bool) : vp_nar .boolean (bI v) = bI v := by cases v <;> decide
theorem hP_w {h0 : xH} {a most : Nat} {bar wo : Bool} {T : xTb} (s : Nat) (v : Bool) : (hP h0 a most bar wo T).set (h0.length + 1) (2, (T.1.map bI).set s (bI v), []) = hP h0 a most bar wo (T.1.set s v, T.2) := by
  unfold hP
  rw [set_a, List.map_set]
  rfl
theorem hP_l {h0 : xH} {a most : Nat} {bar wo : Bool} {T : xTb} (s v : Nat) : (hP h0 a most bar wo T).set (h0.length + 2) (0, (T.2.1.map nI).set s (nI v), []) = hP h0 a most bar wo (T.1, T.2.1.set s v, T.2.2) := by
  unfold hP
  rw [set_a, List.map_set]
  rfl
theorem hP_s {h0 : xH} {a most : Nat} {bar wo : Bool} {T : xTb} (s v : Nat) : (hP h0 a most bar wo T).set (h0.length + 3) (0, (T.2.2.map nI).set s (nI v), []) = hP h0 a most bar wo (T.1, T.2.1, T.2.2.set s v) := by
  unfold hP
  rw [set_a, List.map_set]
  rfl
set_option maxRecDepth 100000 in
set_option maxHeartbeats 4000000 in
theorem ev_playOut (d a most t i B : Nat) (bar wo : Bool) (T : xTb) (h0 : xH) (ha : h0[a]? = some (0, shapesN.map nI, [])) (hl : h0.length < 900) (n : tb3 T) (hT : tbB T B) (hB : B < 2 ^ 20) (hm : most < 50) (ht : t < 2) (hi : i < 132) :
    Ev xT (d + 3) N_L_playOut [.ref h0.length, .int (nI t), .int (nI i)] (hP h0 a most bar wo T) (Rt none (hP h0 a most bar wo (poT T bar wo most t i))) NX := by
  refine Ev_intro t_L_playOut (Nat.le_of_ble_eq_true rfl) ?_
  intro Q X hQ hX K hK
  show K 0 [some (.ref h0.length), some (.int (nI t)), some (.int (nI i)), none, none, none, none, none, none, none] [] _ 0 0
  have hq := hQ _ _ ⟨rfl, rfl⟩
  have pl := hP_A (most := most) (bar := bar) (wo := wo) ha hl n
  have hg := gS_lt i
  have fin : ∀ (x : xPo) (L8 L9 : Option Value) (r : Int32), x = poN T bar t (gS i) most → K 10 [some (.ref h0.length), some (.int (nI t)), some (.int (nI i)), some (.int (bI x.1)), some (.int (bI x.2.1)), some (.int (nI x.2.2.1)), some (.int (nI x.2.2.2)), some (.int r), L8, L9] [] (hP h0 a most bar wo T) 0 0 := by
    intro x L8 L9 r hx
    unfold poT at hq
    rw [← hx] at hq
    have go12 : ∀ v : Bool, v = (if x.1 then wo else x.2.1) → K 12 [some (.ref h0.length), some (.int (nI t)), some (.int (nI i)), some (.int (bI x.1)), some (.int (bI x.2.1)), some (.int (nI x.2.2.1)), some (.int (nI x.2.2.2)), some (.int (nI (2 * i + t))), L8, L9] [.int (bI v), .int (nI (2 * i + t)), .ref (h0.length + 1)] (hP h0 a most bar wo T) 0 0 := by
      intro v hv
      dsimp only at hq
      rw [← hv] at hq
      refine hK 12 _ _ _ _ _ _ _ _ rfl ?_
      dsimp only [k_L_playOut_12, wpI, xop, xcall, xli, xlj, xlf, xld, xla, xlg, xst, xst2, xc1, pI, pJ, pF, pD, pR, pA, p1, p0, xpop, xpush, xsm, xhas, xif, xic, xsw, xrf, xret, xrtl, xrtf, xrtd, xrta, xrtv, xfit, xnew, cond_true, cond_false, f40, f41, f42, f43, List.length_cons, List.length_nil, Nat.reduceAdd, Nat.reduceSub, Nat.reduceMul, Nat.reduceBEq, List.map_cons, List.map_nil, List.headD_cons, List.getElem?_cons_zero, List.getElem?_cons_succ, List.set_cons_zero, List.set_cons_succ]
      refine xhi_of pl.won ?_
      rw [List.length_map, n.1, nar_b]
      try simp (disch := omega) only [nI_add, n_and, n_or, n_xor, n_i31, nI_leI, nI_ltI, n_e0, n_eq, n_m1e, n_l0, n_g0, n_p0, n_q0, n_cl, n_in, n_sub, n_shr, n_shl, n_div, bI_0, n_01, n_11, bI_or, not_false_eq_true, forall_const, not_true_eq_false, false_imp_iff, true_imp_iff]
      refine ⟨by omega, ?_⟩
      rw [hP_w]
      have n1 : tb3 (T.1.set (2 * i + t) v, T.2) := ⟨List.length_set.trans n.1, n.2.1, n.2.2⟩
      have p1 := hP_A (most := most) (bar := bar) (wo := wo) ha hl n1
      refine xhv_of p1.obj ?_
      dsimp only [wpI, xop, xcall, xli, xlj, xlf, xld, xla, xlg, xst, xst2, xc1, pI, pJ, pF, pD, pR, pA, p1, p0, xpop, xpush, xsm, xhas, xif, xic, xsw, xrf, xret, xrtl, xrtf, xrtd, xrta, xrtv, xfit, xnew, cond_true, cond_false, f40, f41, f42, f43, List.length_cons, List.length_nil, Nat.reduceAdd, Nat.reduceSub, Nat.reduceMul, Nat.reduceBEq, List.map_cons, List.map_nil, List.headD_cons, List.getElem?_cons_zero, List.getElem?_cons_succ, List.set_cons_zero, List.set_cons_succ]
      refine xhi_of p1.lon ?_
      rw [List.length_map, n1.2.1]
      try simp (disch := omega) only [nI_add, n_and, n_or, n_xor, n_i31, nI_leI, nI_ltI, n_e0, n_eq, n_m1e, n_l0, n_g0, n_p0, n_q0, n_cl, n_in, n_sub, n_shr, n_shl, n_div, bI_0, n_01, n_11, bI_or, not_false_eq_true, forall_const, not_true_eq_false, false_imp_iff, true_imp_iff]
      refine ⟨by omega, ?_⟩
      rw [hP_l]
      have n2 : tb3 (T.1.set (2 * i + t) v, T.2.1.set (2 * i + t) x.2.2.1, T.2.2) := ⟨n1.1, List.length_set.trans n.2.1, n.2.2⟩
      have p2 := hP_A (most := most) (bar := bar) (wo := wo) ha hl n2
      refine xhv_of p2.obj ?_
      dsimp only [wpI, xop, xcall, xli, xlj, xlf, xld, xla, xlg, xst, xst2, xc1, pI, pJ, pF, pD, pR, pA, p1, p0, xpop, xpush, xsm, xhas, xif, xic, xsw, xrf, xret, xrtl, xrtf, xrtd, xrta, xrtv, xfit, xnew, cond_true, cond_false, f40, f41, f42, f43, List.length_cons, List.length_nil, Nat.reduceAdd, Nat.reduceSub, Nat.reduceMul, Nat.reduceBEq, List.map_cons, List.map_nil, List.headD_cons, List.getElem?_cons_zero, List.getElem?_cons_succ, List.set_cons_zero, List.set_cons_succ]
      refine xhi_of p2.sho ?_
      rw [List.length_map, n2.2.2]
      try simp (disch := omega) only [nI_add, n_and, n_or, n_xor, n_i31, nI_leI, nI_ltI, n_e0, n_eq, n_m1e, n_l0, n_g0, n_p0, n_q0, n_cl, n_in, n_sub, n_shr, n_shl, n_div, bI_0, n_01, n_11, bI_or, not_false_eq_true, forall_const, not_true_eq_false, false_imp_iff, true_imp_iff]
      refine ⟨by omega, ?_⟩
      rw [hP_s]
      exact ⟨Nat.le_refl _, Nat.le_refl _, hq⟩
    refine hK 10 _ _ _ _ _ _ _ _ rfl ?_
    dsimp only [k_L_playOut_10, wpI, xop, xcall, xli, xlj, xlf, xld, xla, xlg, xst, xst2, xc1, pI, pJ, pF, pD, pR, pA, p1, p0, xpop, xpush, xsm, xhas, xif, xic, xsw, xrf, xret, xrtl, xrtf, xrtd, xrta, xrtv, xfit, xnew, cond_true, cond_false, f40, f41, f42, f43, List.length_cons, List.length_nil, Nat.reduceAdd, Nat.reduceSub, Nat.reduceMul, Nat.reduceBEq, List.map_cons, List.map_nil, List.headD_cons, List.getElem?_cons_zero, List.getElem?_cons_succ, List.set_cons_zero, List.set_cons_succ]
    rw [pk_mul]
    refine xhv_of pl.obj ?_
    dsimp only [wpI, xop, xcall, xli, xlj, xlf, xld, xla, xlg, xst, xst2, xc1, pI, pJ, pF, pD, pR, pA, p1, p0, xpop, xpush, xsm, xhas, xif, xic, xsw, xrf, xret, xrtl, xrtf, xrtd, xrta, xrtv, xfit, xnew, cond_true, cond_false, f40, f41, f42, f43, List.length_cons, List.length_nil, Nat.reduceAdd, Nat.reduceSub, Nat.reduceMul, Nat.reduceBEq, List.map_cons, List.map_nil, List.headD_cons, List.getElem?_cons_zero, List.getElem?_cons_succ, List.set_cons_zero, List.set_cons_succ]
    try simp (disch := omega) only [nI_add, n_and, n_or, n_xor, n_i31, nI_leI, nI_ltI, n_e0, n_eq, n_m1e, n_l0, n_g0, n_p0, n_q0, n_cl, n_in, n_sub, n_shr, n_shl, n_div, bI_0, n_01, n_11, bI_or, not_false_eq_true, forall_const, not_true_eq_false, false_imp_iff, true_imp_iff]
    refine ⟨fun z => ?_, fun z => ?_⟩
    · refine hK 11 _ _ _ _ _ _ _ _ rfl ?_
      dsimp only [k_L_playOut_11, wpI, xop, xcall, xli, xlj, xlf, xld, xla, xlg, xst, xst2, xc1, pI, pJ, pF, pD, pR, pA, p1, p0, xpop, xpush, xsm, xhas, xif, xic, xsw, xrf, xret, xrtl, xrtf, xrtd, xrta, xrtv, xfit, xnew, cond_true, cond_false, f40, f41, f42, f43, List.length_cons, List.length_nil, Nat.reduceAdd, Nat.reduceSub, Nat.reduceMul, Nat.reduceBEq, List.map_cons, List.map_nil, List.headD_cons, List.getElem?_cons_zero, List.getElem?_cons_succ, List.set_cons_zero, List.set_cons_succ]
      exact go12 _ (by rw [z]; rfl)
    · have z := b_nf z
      refine xhv_of pl.obj ?_
      dsimp only [wpI, xop, xcall, xli, xlj, xlf, xld, xla, xlg, xst, xst2, xc1, pI, pJ, pF, pD, pR, pA, p1, p0, xpop, xpush, xsm, xhas, xif, xic, xsw, xrf, xret, xrtl, xrtf, xrtd, xrta, xrtv, xfit, xnew, cond_true, cond_false, f40, f41, f42, f43, List.length_cons, List.length_nil, Nat.reduceAdd, Nat.reduceSub, Nat.reduceMul, Nat.reduceBEq, List.map_cons, List.map_nil, List.headD_cons, List.getElem?_cons_zero, List.getElem?_cons_succ, List.set_cons_zero, List.set_cons_succ]
      exact go12 wo (by rw [z]; rfl)
  have loop2 : ∀ (j b r : Nat) (x : xPo) (L9 : Option Value), b + j = most + 1 → r < 5 → x.2.2.1 ≤ B + 1 ∧ x.2.2.2 ≤ B + 1 → (∀ L8 L9, K 9 [some (.ref h0.length), some (.int (nI t)), some (.int (nI i)), some (.int (bI (poB T bar t (gS i) r j b x).1)), some (.int (bI (poB T bar t (gS i) r j b x).2.1)), some (.int (nI (poB T bar t (gS i) r j b x).2.2.1)), some (.int (nI (poB T bar t (gS i) r j b x).2.2.2)), some (.int (nI r)), L8, L9] [] (hP h0 a most bar wo T) 0 0) →
      K 2 [some (.ref h0.length), some (.int (nI t)), some (.int (nI i)), some (.int (bI x.1)), some (.int (bI x.2.1)), some (.int (nI x.2.2.1)), some (.int (nI x.2.2.2)), some (.int (nI r)), some (.int (nI b)), L9] [] (hP h0 a most bar wo T) 0 0 := by
    intro j
    induction j with
    | zero =>
      intro b r x L9 hb hr hx hk
      refine hK 2 _ _ _ _ _ _ _ _ rfl ?_
      dsimp only [k_L_playOut_2, wpI, xop, xcall, xli, xlj, xlf, xld, xla, xlg, xst, xst2, xc1, pI, pJ, pF, pD, pR, pA, p1, p0, xpop, xpush, xsm, xhas, xif, xic, xsw, xrf, xret, xrtl, xrtf, xrtd, xrta, xrtv, xfit, xnew, cond_true, cond_false, f40, f41, f42, f43, List.length_cons, List.length_nil, Nat.reduceAdd, Nat.reduceSub, Nat.reduceMul, Nat.reduceBEq, List.map_cons, List.map_nil, List.headD_cons, List.getElem?_cons_zero, List.getElem?_cons_succ, List.set_cons_zero, List.set_cons_succ]
      refine xhv_of pl.obj ?_
      dsimp only [wpI, xop, xcall, xli, xlj, xlf, xld, xla, xlg, xst, xst2, xc1, pI, pJ, pF, pD, pR, pA, p1, p0, xpop, xpush, xsm, xhas, xif, xic, xsw, xrf, xret, xrtl, xrtf, xrtd, xrta, xrtv, xfit, xnew, cond_true, cond_false, f40, f41, f42, f43, List.length_cons, List.length_nil, Nat.reduceAdd, Nat.reduceSub, Nat.reduceMul, Nat.reduceBEq, List.map_cons, List.map_nil, List.headD_cons, List.getElem?_cons_zero, List.getElem?_cons_succ, List.set_cons_zero, List.set_cons_succ]
      try simp (disch := omega) only [nI_add, n_and, n_or, n_xor, n_i31, nI_leI, nI_ltI, n_e0, n_eq, n_m1e, n_l0, n_g0, n_p0, n_q0, n_cl, n_in, n_sub, n_shr, n_shl, n_div, bI_0, n_01, n_11, bI_or, not_false_eq_true, forall_const, not_true_eq_false, false_imp_iff, true_imp_iff]
      exact br_t (by omega) (hk _ _)
    | succ j ih =>
      intro b r x L9 hb hr hx hk
      rw [poB] at hk
      refine hK 2 _ _ _ _ _ _ _ _ rfl ?_
      dsimp only [k_L_playOut_2, wpI, xop, xcall, xli, xlj, xlf, xld, xla, xlg, xst, xst2, xc1, pI, pJ, pF, pD, pR, pA, p1, p0, xpop, xpush, xsm, xhas, xif, xic, xsw, xrf, xret, xrtl, xrtf, xrtd, xrta, xrtv, xfit, xnew, cond_true, cond_false, f40, f41, f42, f43, List.length_cons, List.length_nil, Nat.reduceAdd, Nat.reduceSub, Nat.reduceMul, Nat.reduceBEq, List.map_cons, List.map_nil, List.headD_cons, List.getElem?_cons_zero, List.getElem?_cons_succ, List.set_cons_zero, List.set_cons_succ]
      refine xhv_of pl.obj ?_
      dsimp only [wpI, xop, xcall, xli, xlj, xlf, xld, xla, xlg, xst, xst2, xc1, pI, pJ, pF, pD, pR, pA, p1, p0, xpop, xpush, xsm, xhas, xif, xic, xsw, xrf, xret, xrtl, xrtf, xrtd, xrta, xrtv, xfit, xnew, cond_true, cond_false, f40, f41, f42, f43, List.length_cons, List.length_nil, Nat.reduceAdd, Nat.reduceSub, Nat.reduceMul, Nat.reduceBEq, List.map_cons, List.map_nil, List.headD_cons, List.getElem?_cons_zero, List.getElem?_cons_succ, List.set_cons_zero, List.set_cons_succ]
      try simp (disch := omega) only [nI_add, n_and, n_or, n_xor, n_i31, nI_leI, nI_ltI, n_e0, n_eq, n_m1e, n_l0, n_g0, n_p0, n_q0, n_cl, n_in, n_sub, n_shr, n_shl, n_div, bI_0, n_01, n_11, bI_or, not_false_eq_true, forall_const, not_true_eq_false, false_imp_iff, true_imp_iff]
      refine br_f (by omega) ?_
      refine xhv_of pl.obj ?_
      dsimp only [wpI, xop, xcall, xli, xlj, xlf, xld, xla, xlg, xst, xst2, xc1, pI, pJ, pF, pD, pR, pA, p1, p0, xpop, xpush, xsm, xhas, xif, xic, xsw, xrf, xret, xrtl, xrtf, xrtd, xrta, xrtv, xfit, xnew, cond_true, cond_false, f40, f41, f42, f43, List.length_cons, List.length_nil, Nat.reduceAdd, Nat.reduceSub, Nat.reduceMul, Nat.reduceBEq, List.map_cons, List.map_nil, List.headD_cons, List.getElem?_cons_zero, List.getElem?_cons_succ, List.set_cons_zero, List.set_cons_succ]
      refine xai_of pl.la pl.shp ?_
      rw [List.length_map, shapes_len]
      try simp (disch := omega) only [nI_add, n_and, n_or, n_xor, n_i31, nI_leI, nI_ltI, n_e0, n_eq, n_m1e, n_l0, n_g0, n_p0, n_q0, n_cl, n_in, n_sub, n_shr, n_shl, n_div, bI_0, n_01, n_11, bI_or, not_false_eq_true, forall_const, not_true_eq_false, false_imp_iff, true_imp_iff]
      refine ⟨by omega, ?_⟩
      rw [shp_at hi]
      refine xhv_of pl.obj ?_
      refine Ev_use (ev_slotBehind _ _ a _ _ _ most t (gS i) r b bar wo T _ pl ht hg hr (by omega)) ?_
      dsimp only [wpI, xop, xcall, xli, xlj, xlf, xld, xla, xlg, xst, xst2, xc1, pI, pJ, pF, pD, pR, pA, p1, p0, xpop, xpush, xsm, xhas, xif, xic, xsw, xrf, xret, xrtl, xrtf, xrtd, xrta, xrtv, xfit, xnew, cond_true, cond_false, f40, f41, f42, f43, List.length_cons, List.length_nil, Nat.reduceAdd, Nat.reduceSub, Nat.reduceMul, Nat.reduceBEq, List.map_cons, List.map_nil, List.headD_cons, List.getElem?_cons_zero, List.getElem?_cons_succ, List.set_cons_zero, List.set_cons_succ]
      have next8 : ∀ (y : xPo) (L9 : Option Value), y = poO T (sbO bar t (gS i) r b) x → K 8 [some (.ref h0.length), some (.int (nI t)), some (.int (nI i)), some (.int (bI y.1)), some (.int (bI y.2.1)), some (.int (nI y.2.2.1)), some (.int (nI y.2.2.2)), some (.int (nI r)), some (.int (nI b)), L9] [] (hP h0 a most bar wo T) 0 0 := by
        intro y L9 hy
        rw [← hy] at hk
        refine hK 8 _ _ _ _ _ _ _ _ rfl ?_
        dsimp only [k_L_playOut_8, wpI, xop, xcall, xli, xlj, xlf, xld, xla, xlg, xst, xst2, xc1, pI, pJ, pF, pD, pR, pA, p1, p0, xpop, xpush, xsm, xhas, xif, xic, xsw, xrf, xret, xrtl, xrtf, xrtd, xrta, xrtv, xfit, xnew, cond_true, cond_false, f40, f41, f42, f43, List.length_cons, List.length_nil, Nat.reduceAdd, Nat.reduceSub, Nat.reduceMul, Nat.reduceBEq, List.map_cons, List.map_nil, List.headD_cons, List.getElem?_cons_zero, List.getElem?_cons_succ, List.set_cons_zero, List.set_cons_succ]
        try simp (disch := omega) only [nI_add, n_and, n_or, n_xor, n_i31, nI_leI, nI_ltI, n_e0, n_eq, n_m1e, n_l0, n_g0, n_p0, n_q0, n_cl, n_in, n_sub, n_shr, n_shl, n_div, bI_0, n_01, n_11, bI_or, not_false_eq_true, forall_const, not_true_eq_false, false_imp_iff, true_imp_iff]
        exact ih (b + 1) r y _ (by omega) hr (by rw [hy]; exact poO_le hT hx) hk
      cases e : sbO bar t (gS i) r b with
      | none =>
        rw [e] at next8
        exact ⟨fun _ => next8 x _ rfl, fun z => (z rfl).elim⟩
      | some s =>
        rw [e] at next8
        have hs := sbO_lt e
        have h1 := hT.1 s
        have h2 := hT.2 s
        dsimp only [oI]
        refine ⟨fun z => ((n_m1e (by omega)).mp z).elim, fun _ => ?_⟩
        have go7 : ∀ (wv : Bool) (v : Nat), wv = (x.2.1 || !T.1.getD s false) → v = (if x.1 then T.2.2.getD s 0 + 1 else min x.2.2.2 (T.2.2.getD s 0 + 1)) →
            K 7 [some (.ref h0.length), some (.int (nI t)), some (.int (nI i)), some (.int (bI x.1)), some (.int (bI wv)), some (.int (nI (max x.2.2.1 (T.2.1.getD s 0 + 1)))), some (.int (nI x.2.2.2)), some (.int (nI r)), some (.int (nI b)), some (.int (nI s))] [.int (nI v)] (hP h0 a most bar wo T) 0 0 := by
          intro wv v hw hv
          refine hK 7 _ _ _ _ _ _ _ _ rfl ?_
          dsimp only [k_L_playOut_7, wpI, xop, xcall, xli, xlj, xlf, xld, xla, xlg, xst, xst2, xc1, pI, pJ, pF, pD, pR, pA, p1, p0, xpop, xpush, xsm, xhas, xif, xic, xsw, xrf, xret, xrtl, xrtf, xrtd, xrta, xrtv, xfit, xnew, cond_true, cond_false, f40, f41, f42, f43, List.length_cons, List.length_nil, Nat.reduceAdd, Nat.reduceSub, Nat.reduceMul, Nat.reduceBEq, List.map_cons, List.map_nil, List.headD_cons, List.getElem?_cons_zero, List.getElem?_cons_succ, List.set_cons_zero, List.set_cons_succ]
          exact next8 (false, wv, max x.2.2.1 (T.2.1.getD s 0 + 1), v) _ (by rw [hw, hv]; rfl)
        have go5 : ∀ wv : Bool, wv = (x.2.1 || !T.1.getD s false) →
            K 5 [some (.ref h0.length), some (.int (nI t)), some (.int (nI i)), some (.int (bI x.1)), some (.int (bI x.2.1)), some (.int (nI x.2.2.1)), some (.int (nI x.2.2.2)), some (.int (nI r)), some (.int (nI b)), some (.int (nI s))] [.int (bI wv)] (hP h0 a most bar wo T) 0 0 := by
          intro wv hw
          refine hK 5 _ _ _ _ _ _ _ _ rfl ?_
          dsimp only [k_L_playOut_5, wpI, xop, xcall, xli, xlj, xlf, xld, xla, xlg, xst, xst2, xc1, pI, pJ, pF, pD, pR, pA, p1, p0, xpop, xpush, xsm, xhas, xif, xic, xsw, xrf, xret, xrtl, xrtf, xrtd, xrta, xrtv, xfit, xnew, cond_true, cond_false, f40, f41, f42, f43, List.length_cons, List.length_nil, Nat.reduceAdd, Nat.reduceSub, Nat.reduceMul, Nat.reduceBEq, List.map_cons, List.map_nil, List.headD_cons, List.getElem?_cons_zero, List.getElem?_cons_succ, List.set_cons_zero, List.set_cons_succ]
          refine xhv_of pl.obj ?_
          dsimp only [wpI, xop, xcall, xli, xlj, xlf, xld, xla, xlg, xst, xst2, xc1, pI, pJ, pF, pD, pR, pA, p1, p0, xpop, xpush, xsm, xhas, xif, xic, xsw, xrf, xret, xrtl, xrtf, xrtd, xrta, xrtv, xfit, xnew, cond_true, cond_false, f40, f41, f42, f43, List.length_cons, List.length_nil, Nat.reduceAdd, Nat.reduceSub, Nat.reduceMul, Nat.reduceBEq, List.map_cons, List.map_nil, List.headD_cons, List.getElem?_cons_zero, List.getElem?_cons_succ, List.set_cons_zero, List.set_cons_succ]
          refine xai_of pl.ll pl.lon ?_
          rw [List.length_map, n.2.1]
          try simp (disch := omega) only [nI_add, n_and, n_or, n_xor, n_i31, nI_leI, nI_ltI, n_e0, n_eq, n_m1e, n_l0, n_g0, n_p0, n_q0, n_cl, n_in, n_sub, n_shr, n_shl, n_div, bI_0, n_01, n_11, bI_or, not_false_eq_true, forall_const, not_true_eq_false, false_imp_iff, true_imp_iff]
          refine ⟨by omega, ?_⟩
          rw [nL_at (by rw [n.2.1]; exact hs)]
          try simp (disch := omega) only [nI_add, n_and, n_or, n_xor, n_i31, nI_leI, nI_ltI, n_e0, n_eq, n_m1e, n_l0, n_g0, n_p0, n_q0, n_cl, n_in, n_sub, n_shr, n_shl, n_div, bI_0, n_01, n_11, bI_or, not_false_eq_true, forall_const, not_true_eq_false, false_imp_iff, true_imp_iff]
          refine Ev_use (ev_max _ _ _ _ (by omega) (by omega)) ?_
          dsimp only [wpI, xop, xcall, xli, xlj, xlf, xld, xla, xlg, xst, xst2, xc1, pI, pJ, pF, pD, pR, pA, p1, p0, xpop, xpush, xsm, xhas, xif, xic, xsw, xrf, xret, xrtl, xrtf, xrtd, xrta, xrtv, xfit, xnew, cond_true, cond_false, f40, f41, f42, f43, List.length_cons, List.length_nil, Nat.reduceAdd, Nat.reduceSub, Nat.reduceMul, Nat.reduceBEq, List.map_cons, List.map_nil, List.headD_cons, List.getElem?_cons_zero, List.getElem?_cons_succ, List.set_cons_zero, List.set_cons_succ]
          try simp (disch := omega) only [nI_add, n_and, n_or, n_xor, n_i31, nI_leI, nI_ltI, n_e0, n_eq, n_m1e, n_l0, n_g0, n_p0, n_q0, n_cl, n_in, n_sub, n_shr, n_shl, n_div, bI_0, n_01, n_11, bI_or, not_false_eq_true, forall_const, not_true_eq_false, false_imp_iff, true_imp_iff]
          refine ⟨fun z => ?_, fun z => ?_⟩
          · refine hK 6 _ _ _ _ _ _ _ _ rfl ?_
            dsimp only [k_L_playOut_6, wpI, xop, xcall, xli, xlj, xlf, xld, xla, xlg, xst, xst2, xc1, pI, pJ, pF, pD, pR, pA, p1, p0, xpop, xpush, xsm, xhas, xif, xic, xsw, xrf, xret, xrtl, xrtf, xrtd, xrta, xrtv, xfit, xnew, cond_true, cond_false, f40, f41, f42, f43, List.length_cons, List.length_nil, Nat.reduceAdd, Nat.reduceSub, Nat.reduceMul, Nat.reduceBEq, List.map_cons, List.map_nil, List.headD_cons, List.getElem?_cons_zero, List.getElem?_cons_succ, List.set_cons_zero, List.set_cons_succ]
            refine xhv_of pl.obj ?_
            dsimp only [wpI, xop, xcall, xli, xlj, xlf, xld, xla, xlg, xst, xst2, xc1, pI, pJ, pF, pD, pR, pA, p1, p0, xpop, xpush, xsm, xhas, xif, xic, xsw, xrf, xret, xrtl, xrtf, xrtd, xrta, xrtv, xfit, xnew, cond_true, cond_false, f40, f41, f42, f43, List.length_cons, List.length_nil, Nat.reduceAdd, Nat.reduceSub, Nat.reduceMul, Nat.reduceBEq, List.map_cons, List.map_nil, List.headD_cons, List.getElem?_cons_zero, List.getElem?_cons_succ, List.set_cons_zero, List.set_cons_succ]
            refine xai_of pl.ls pl.sho ?_
            rw [List.length_map, n.2.2]
            try simp (disch := omega) only [nI_add, n_and, n_or, n_xor, n_i31, nI_leI, nI_ltI, n_e0, n_eq, n_m1e, n_l0, n_g0, n_p0, n_q0, n_cl, n_in, n_sub, n_shr, n_shl, n_div, bI_0, n_01, n_11, bI_or, not_false_eq_true, forall_const, not_true_eq_false, false_imp_iff, true_imp_iff]
            refine ⟨by omega, ?_⟩
            rw [nL_at (by rw [n.2.2]; exact hs)]
            try simp (disch := omega) only [nI_add, n_and, n_or, n_xor, n_i31, nI_leI, nI_ltI, n_e0, n_eq, n_m1e, n_l0, n_g0, n_p0, n_q0, n_cl, n_in, n_sub, n_shr, n_shl, n_div, bI_0, n_01, n_11, bI_or, not_false_eq_true, forall_const, not_true_eq_false, false_imp_iff, true_imp_iff]
            refine Ev_use (ev_min _ _ _ _ (by omega) (by omega)) ?_
            dsimp only [wpI, xop, xcall, xli, xlj, xlf, xld, xla, xlg, xst, xst2, xc1, pI, pJ, pF, pD, pR, pA, p1, p0, xpop, xpush, xsm, xhas, xif, xic, xsw, xrf, xret, xrtl, xrtf, xrtd, xrta, xrtv, xfit, xnew, cond_true, cond_false, f40, f41, f42, f43, List.length_cons, List.length_nil, Nat.reduceAdd, Nat.reduceSub, Nat.reduceMul, Nat.reduceBEq, List.map_cons, List.map_nil, List.headD_cons, List.getElem?_cons_zero, List.getElem?_cons_succ, List.set_cons_zero, List.set_cons_succ]
            exact go7 wv _ hw (by rw [z]; rfl)
          · have z := b_nf z
            refine xhv_of pl.obj ?_
            dsimp only [wpI, xop, xcall, xli, xlj, xlf, xld, xla, xlg, xst, xst2, xc1, pI, pJ, pF, pD, pR, pA, p1, p0, xpop, xpush, xsm, xhas, xif, xic, xsw, xrf, xret, xrtl, xrtf, xrtd, xrta, xrtv, xfit, xnew, cond_true, cond_false, f40, f41, f42, f43, List.length_cons, List.length_nil, Nat.reduceAdd, Nat.reduceSub, Nat.reduceMul, Nat.reduceBEq, List.map_cons, List.map_nil, List.headD_cons, List.getElem?_cons_zero, List.getElem?_cons_succ, List.set_cons_zero, List.set_cons_succ]
            refine xai_of pl.ls pl.sho ?_
            rw [List.length_map, n.2.2]
            try simp (disch := omega) only [nI_add, n_and, n_or, n_xor, n_i31, nI_leI, nI_ltI, n_e0, n_eq, n_m1e, n_l0, n_g0, n_p0, n_q0, n_cl, n_in, n_sub, n_shr, n_shl, n_div, bI_0, n_01, n_11, bI_or, not_false_eq_true, forall_const, not_true_eq_false, false_imp_iff, true_imp_iff]
            refine ⟨by omega, ?_⟩
            rw [nL_at (by rw [n.2.2]; exact hs)]
            try simp (disch := omega) only [nI_add, n_and, n_or, n_xor, n_i31, nI_leI, nI_ltI, n_e0, n_eq, n_m1e, n_l0, n_g0, n_p0, n_q0, n_cl, n_in, n_sub, n_shr, n_shl, n_div, bI_0, n_01, n_11, bI_or, not_false_eq_true, forall_const, not_true_eq_false, false_imp_iff, true_imp_iff]
            exact go7 wv _ hw (by rw [z]; rfl)
        have go3 : (x.2.1 || !T.1.getD s false) = true → K 3 [some (.ref h0.length), some (.int (nI t)), some (.int (nI i)), some (.int (bI x.1)), some (.int (bI x.2.1)), some (.int (nI x.2.2.1)), some (.int (nI x.2.2.2)), some (.int (nI r)), some (.int (nI b)), some (.int (nI s))] [] (hP h0 a most bar wo T) 0 0 := by
          intro z
          refine hK 3 _ _ _ _ _ _ _ _ rfl ?_
          dsimp only [k_L_playOut_3, wpI, xop, xcall, xli, xlj, xlf, xld, xla, xlg, xst, xst2, xc1, pI, pJ, pF, pD, pR, pA, p1, p0, xpop, xpush, xsm, xhas, xif, xic, xsw, xrf, xret, xrtl, xrtf, xrtd, xrta, xrtv, xfit, xnew, cond_true, cond_false, f40, f41, f42, f43, List.length_cons, List.length_nil, Nat.reduceAdd, Nat.reduceSub, Nat.reduceMul, Nat.reduceBEq, List.map_cons, List.map_nil, List.headD_cons, List.getElem?_cons_zero, List.getElem?_cons_succ, List.set_cons_zero, List.set_cons_succ]
          exact go5 true z.symm
        try simp (disch := omega) only [nI_add, n_and, n_or, n_xor, n_i31, nI_leI, nI_ltI, n_e0, n_eq, n_m1e, n_l0, n_g0, n_p0, n_q0, n_cl, n_in, n_sub, n_shr, n_shl, n_div, bI_0, n_01, n_11, bI_or, not_false_eq_true, forall_const, not_true_eq_false, false_imp_iff, true_imp_iff]
        refine ⟨fun z => ?_, fun z => ?_⟩
        · exact go3 (by rw [b_nf z]; rfl)
        · refine xhv_of pl.obj ?_
          dsimp only [wpI, xop, xcall, xli, xlj, xlf, xld, xla, xlg, xst, xst2, xc1, pI, pJ, pF, pD, pR, pA, p1, p0, xpop, xpush, xsm, xhas, xif, xic, xsw, xrf, xret, xrtl, xrtf, xrtd, xrta, xrtv, xfit, xnew, cond_true, cond_false, f40, f41, f42, f43, List.length_cons, List.length_nil, Nat.reduceAdd, Nat.reduceSub, Nat.reduceMul, Nat.reduceBEq, List.map_cons, List.map_nil, List.headD_cons, List.getElem?_cons_zero, List.getElem?_cons_succ, List.set_cons_zero, List.set_cons_succ]
          refine xhi_of pl.won ?_
          rw [List.length_map, n.1]
          try simp (disch := omega) only [nI_add, n_and, n_or, n_xor, n_i31, nI_leI, nI_ltI, n_e0, n_eq, n_m1e, n_l0, n_g0, n_p0, n_q0, n_cl, n_in, n_sub, n_shr, n_shl, n_div, bI_0, n_01, n_11, bI_or, not_false_eq_true, forall_const, not_true_eq_false, false_imp_iff, true_imp_iff]
          refine ⟨by omega, ?_⟩
          rw [bL_at (by rw [n.1]; exact hs)]
          try simp (disch := omega) only [nI_add, n_and, n_or, n_xor, n_i31, nI_leI, nI_ltI, n_e0, n_eq, n_m1e, n_l0, n_g0, n_p0, n_q0, n_cl, n_in, n_sub, n_shr, n_shl, n_div, bI_0, n_01, n_11, bI_or, not_false_eq_true, forall_const, not_true_eq_false, false_imp_iff, true_imp_iff]
          refine ⟨fun z2 => ?_, fun z2 => ?_⟩
          · refine hK 4 _ _ _ _ _ _ _ _ rfl ?_
            dsimp only [k_L_playOut_4, wpI, xop, xcall, xli, xlj, xlf, xld, xla, xlg, xst, xst2, xc1, pI, pJ, pF, pD, pR, pA, p1, p0, xpop, xpush, xsm, xhas, xif, xic, xsw, xrf, xret, xrtl, xrtf, xrtd, xrta, xrtv, xfit, xnew, cond_true, cond_false, f40, f41, f42, f43, List.length_cons, List.length_nil, Nat.reduceAdd, Nat.reduceSub, Nat.reduceMul, Nat.reduceBEq, List.map_cons, List.map_nil, List.headD_cons, List.getElem?_cons_zero, List.getElem?_cons_succ, List.set_cons_zero, List.set_cons_succ]
            exact go5 false (by rw [z, b_nf z2]; rfl)
          · exact go3 (by rw [z2]; simp)
  have loop1 : ∀ (j r : Nat) (x : xPo) (L8 L9 : Option Value), r + j = 5 → x.2.2.1 ≤ B + 1 ∧ x.2.2.2 ≤ B + 1 → poR T bar t (gS i) most j r x = poN T bar t (gS i) most →
      K 1 [some (.ref h0.length), some (.int (nI t)), some (.int (nI i)), some (.int (bI x.1)), some (.int (bI x.2.1)), some (.int (nI x.2.2.1)), some (.int (nI x.2.2.2)), some (.int (nI r)), L8, L9] [] (hP h0 a most bar wo T) 0 0 := by
    intro j
    induction j with
    | zero =>
      intro r x L8 L9 hr hx he
      obtain rfl : r = 5 := by omega
      refine hK 1 _ _ _ _ _ _ _ _ rfl ?_
      dsimp only [k_L_playOut_1, wpI, xop, xcall, xli, xlj, xlf, xld, xla, xlg, xst, xst2, xc1, pI, pJ, pF, pD, pR, pA, p1, p0, xpop, xpush, xsm, xhas, xif, xic, xsw, xrf, xret, xrtl, xrtf, xrtd, xrta, xrtv, xfit, xnew, cond_true, cond_false, f40, f41, f42, f43, List.length_cons, List.length_nil, Nat.reduceAdd, Nat.reduceSub, Nat.reduceMul, Nat.reduceBEq, List.map_cons, List.map_nil, List.headD_cons, List.getElem?_cons_zero, List.getElem?_cons_succ, List.set_cons_zero, List.set_cons_succ]
      exact br_t (by decide) (fin x _ _ _ he)
    | succ j ih =>
      intro r x L8 L9 hr hx he
      rw [poR] at he
      refine hK 1 _ _ _ _ _ _ _ _ rfl ?_
      dsimp only [k_L_playOut_1, wpI, xop, xcall, xli, xlj, xlf, xld, xla, xlg, xst, xst2, xc1, pI, pJ, pF, pD, pR, pA, p1, p0, xpop, xpush, xsm, xhas, xif, xic, xsw, xrf, xret, xrtl, xrtf, xrtd, xrta, xrtv, xfit, xnew, cond_true, cond_false, f40, f41, f42, f43, List.length_cons, List.length_nil, Nat.reduceAdd, Nat.reduceSub, Nat.reduceMul, Nat.reduceBEq, List.map_cons, List.map_nil, List.headD_cons, List.getElem?_cons_zero, List.getElem?_cons_succ, List.set_cons_zero, List.set_cons_succ]
      try simp (disch := omega) only [nI_add, n_and, n_or, n_xor, n_i31, nI_leI, nI_ltI, n_e0, n_eq, n_m1e, n_l0, n_g0, n_p0, n_q0, n_cl, n_in, n_sub, n_shr, n_shl, n_div, bI_0, n_01, n_11, bI_or, not_false_eq_true, forall_const, not_true_eq_false, false_imp_iff, true_imp_iff]
      refine br_f (by omega) ?_
      refine loop2 most 1 r x _ (by omega) (by omega) hx fun L8 L9 => ?_
      refine hK 9 _ _ _ _ _ _ _ _ rfl ?_
      dsimp only [k_L_playOut_9, wpI, xop, xcall, xli, xlj, xlf, xld, xla, xlg, xst, xst2, xc1, pI, pJ, pF, pD, pR, pA, p1, p0, xpop, xpush, xsm, xhas, xif, xic, xsw, xrf, xret, xrtl, xrtf, xrtd, xrta, xrtv, xfit, xnew, cond_true, cond_false, f40, f41, f42, f43, List.length_cons, List.length_nil, Nat.reduceAdd, Nat.reduceSub, Nat.reduceMul, Nat.reduceBEq, List.map_cons, List.map_nil, List.headD_cons, List.getElem?_cons_zero, List.getElem?_cons_succ, List.set_cons_zero, List.set_cons_succ]
      try simp (disch := omega) only [nI_add, n_and, n_or, n_xor, n_i31, nI_leI, nI_ltI, n_e0, n_eq, n_m1e, n_l0, n_g0, n_p0, n_q0, n_cl, n_in, n_sub, n_shr, n_shl, n_div, bI_0, n_01, n_11, bI_or, not_false_eq_true, forall_const, not_true_eq_false, false_imp_iff, true_imp_iff]
      exact ih (r + 1) _ _ _ (by omega) (poB_le hT _ _ _ hx) he
  refine hK 0 _ _ _ _ _ _ _ _ rfl ?_
  dsimp only [k_L_playOut_0, wpI, xop, xcall, xli, xlj, xlf, xld, xla, xlg, xst, xst2, xc1, pI, pJ, pF, pD, pR, pA, p1, p0, xpop, xpush, xsm, xhas, xif, xic, xsw, xrf, xret, xrtl, xrtf, xrtd, xrta, xrtv, xfit, xnew, cond_true, cond_false, f40, f41, f42, f43, List.length_cons, List.length_nil, Nat.reduceAdd, Nat.reduceSub, Nat.reduceMul, Nat.reduceBEq, List.map_cons, List.map_nil, List.headD_cons, List.getElem?_cons_zero, List.getElem?_cons_succ, List.set_cons_zero, List.set_cons_succ]
  exact loop1 5 0 (true, false, 0, 0) _ _ rfl ⟨Nat.zero_le _, Nat.zero_le _⟩ rfl
end
section
/-! ===== a Play is made ===== -/
theorem g_0 (h0 : xH) (c : xC) (l : xH) : (h0 ++ c :: l)[h0.length]? = some c := get_a h0 (c :: l) 0
theorem s_0 (h0 : xH) (c c' : xC) (l : xH) : (h0 ++ c :: l).set h0.length c' = h0 ++ c' :: l := set_a h0 (c :: l) c' 0
theorem wfv_le {n m : Nat} (h : n ≤ m) {v : Value} (w : wfv n v) : wfv m v := by
  cases v with
  | ref a => exact w.elim (fun x => Or.inl (Nat.lt_of_lt_of_le x h)) Or.inr
  | _ => exact trivial
theorem xwS_le {n m : Nat} (h : n ≤ m) : ∀ {l : List Value}, xwS n l → xwS m l
  | [], _ => trivial
  | _ :: _, w => ⟨wfv_le h w.1, xwS_le h w.2⟩
theorem xwH_le {n m : Nat} (h : n ≤ m) : ∀ {l : xH}, xwH n l → xwH m l
  | [], _ => trivial
  | _ :: _, w => ⟨xwS_le h w.1, xwH_le h w.2⟩
theorem xwH_app {n : Nat} : ∀ {l k : xH}, xwH n l → xwH n k → xwH n (l ++ k)
  | [], _, _, w => w
  | _ :: _, _, w, v => ⟨w.1, xwH_app w.2 v⟩
def plL (most : Nat) (bar wo : Bool) : Nat → Nat → xTb → xTb
  | 0, _, T => T
  | j + 1, i, T => plL most bar wo j (i + 1) (poT (poT T bar wo most 0 i) bar wo most 1 i)
def T00 : xTb := (List.replicate 264 false, List.replicate 264 0, List.replicate 264 0)
def plT (most : Nat) (bar wo : Bool) : xTb := plL most bar wo 132 0 T00
theorem plL_ok (most : Nat) (bar wo : Bool) : ∀ (j i B : Nat) (T : xTb), tb3 T → tbB T B → tb3 (plL most bar wo j i T) ∧ tbB (plL most bar wo j i T) (B + 2 * j)
  | 0, _, _, _, n, hT => ⟨n, hT⟩
  | j + 1, i, B, T, n, hT => by
    have h := plL_ok most bar wo j (i + 1) (B + 1 + 1) _ (poT_n (poT_n (bar := bar) (wo := wo) (most := most) (t := 0) (i := i) n) (bar := bar) (wo := wo) (most := most) (t := 1) (i := i)) (poT_le (poT_le hT))
    refine ⟨h.1, ?_⟩
    have e : B + 2 * (j + 1) = B + 1 + 1 + 2 * j := by omega
    rw [e]
    exact h.2
theorem rep_le (n i : Nat) : (List.replicate n 0).getD i 0 ≤ 0 := by
  rw [List.getD_eq_getElem?_getD, List.getElem?_replicate]
  split <;> exact Nat.le_refl _
theorem T00_3 : tb3 T00 := ⟨List.length_replicate, List.length_replicate, List.length_replicate⟩
theorem T00_B : tbB T00 0 := ⟨rep_le _, rep_le _⟩
theorem plT_3 (most : Nat) (bar wo : Bool) : tb3 (plT most bar wo) := (plL_ok most bar wo 132 0 0 T00 T00_3 T00_B).1
theorem plT_B (most : Nat) (bar wo : Bool) : tbB (plT most bar wo) 264 := (plL_ok most bar wo 132 0 0 T00 T00_3 T00_B).2
theorem wr {n a : Nat} (h : a < n) : wfv n (.ref a) := Or.inl h
set_option maxRecDepth 100000 in
set_option maxHeartbeats 4000000 in
theorem ev_L_init (d a most : Nat) (bar wo : Bool) (h0 : xH) (ha : h0[a]? = some (0, shapesN.map nI, [])) (hl : h0.length < 900) (hw : xwH h0.length h0) (hm : most < 50) :
    Ev xT (d + 4) N_L_init [.ref h0.length, .ref a, .int (nI most), .int (bI bar), .int (bI wo)] (h0 ++ [(5, [], [.null, .int 0, .int 0, .int 0, .null, .null, .null])]) (Rt none (hP h0 a most bar wo (plT most bar wo))) NX := by
  refine Ev_intro t_L_init (Nat.le_of_ble_eq_true rfl) ?_
  intro Q X hQ hX K hK
  show K 0 [some (.ref h0.length), some (.ref a), some (.int (nI most)), some (.int (bI bar)), some (.int (bI wo)), none] [] _ 0 0
  have hq := hQ _ _ ⟨rfl, rfl⟩
  have hal : a < h0.length := (List.getElem?_eq_some_iff.mp ha).1
  have hat : ∀ l, (h0 ++ l)[a]? = some (0, shapesN.map nI, []) := fun l => by rw [List.getElem?_append_left hal]; exact ha
  have loop : ∀ (j i : Nat) (T : xTb), i + j = 132 → tb3 T → tbB T (2 * i) → ∀ c s, c ≤ 3 → s ≤ 792 → Q none (hP h0 a most bar wo (plL most bar wo j i T)) →
      K 1 [some (.ref h0.length), some (.ref a), some (.int (nI most)), some (.int (bI bar)), some (.int (bI wo)), some (.int (nI i))] [] (hP h0 a most bar wo T) c s := by
    intro j
    induction j with
    | zero =>
      intro i T hi n hT c s hc hs hq
      have pl := hP_A (most := most) (bar := bar) (wo := wo) ha hl n
      refine hK 1 _ _ _ _ _ _ _ _ rfl ?_
      dsimp only [k_L_init_1, wpI, xop, xcall, xli, xlj, xlf, xld, xla, xlg, xst, xst2, xc1, pI, pJ, pF, pD, pR, pA, p1, p0, xpop, xpush, xsm, xhas, xif, xic, xsw, xrf, xret, xrtl, xrtf, xrtd, xrta, xrtv, xfit, xnew, cond_true, cond_false, f40, f41, f42, f43, List.length_cons, List.length_nil, Nat.reduceAdd, Nat.reduceSub, Nat.reduceMul, Nat.reduceBEq, List.map_cons, List.map_nil, List.headD_cons, List.getElem?_cons_zero, List.getElem?_cons_succ, List.set_cons_zero, List.set_cons_succ]
      refine xal_of pl.la pl.shp ?_
      rw [List.length_map, shapes_len]
      try simp (disch := omega) only [nI_add, n_and, n_or, n_xor, n_i31, nI_leI, nI_ltI, n_e0, n_eq, n_m1e, n_l0, n_g0, n_p0, n_q0, n_cl, n_in, n_sub, n_shr, n_shl, n_div, bI_0, n_01, n_11, bI_or, not_false_eq_true, forall_const, not_true_eq_false, false_imp_iff, true_imp_iff]
      refine br_t (by omega) ?_
      refine hK 2 _ _ _ _ _ _ _ _ rfl ?_
      dsimp only [k_L_init_2, wpI, xop, xcall, xli, xlj, xlf, xld, xla, xlg, xst, xst2, xc1, pI, pJ, pF, pD, pR, pA, p1, p0, xpop, xpush, xsm, xhas, xif, xic, xsw, xrf, xret, xrtl, xrtf, xrtd, xrta, xrtv, xfit, xnew, cond_true, cond_false, f40, f41, f42, f43, List.length_cons, List.length_nil, Nat.reduceAdd, Nat.reduceSub, Nat.reduceMul, Nat.reduceBEq, List.map_cons, List.map_nil, List.headD_cons, List.getElem?_cons_zero, List.getElem?_cons_succ, List.set_cons_zero, List.set_cons_succ]
      exact ⟨hc, hs, hq⟩
    | succ j ih =>
      intro i T hi n hT c s hc hs hq
      rw [plL] at hq
      have pl := hP_A (most := most) (bar := bar) (wo := wo) ha hl n
      have n1 := poT_n (bar := bar) (wo := wo) (most := most) (t := 0) (i := i) n
      have hT1 := poT_le (bar := bar) (wo := wo) (most := most) (t := 0) (i := i) hT
      have p1 := hP_A (most := most) (bar := bar) (wo := wo) ha hl n1
      refine hK 1 _ _ _ _ _ _ _ _ rfl ?_
      dsimp only [k_L_init_1, wpI, xop, xcall, xli, xlj, xlf, xld, xla, xlg, xst, xst2, xc1, pI, pJ, pF, pD, pR, pA, p1, p0, xpop, xpush, xsm, xhas, xif, xic, xsw, xrf, xret, xrtl, xrtf, xrtd, xrta, xrtv, xfit, xnew, cond_true, cond_false, f40, f41, f42, f43, List.length_cons, List.length_nil, Nat.reduceAdd, Nat.reduceSub, Nat.reduceMul, Nat.reduceBEq, List.map_cons, List.map_nil, List.headD_cons, List.getElem?_cons_zero, List.getElem?_cons_succ, List.set_cons_zero, List.set_cons_succ]
      refine xal_of pl.la pl.shp ?_
      rw [List.length_map, shapes_len]
      try simp (disch := omega) only [nI_add, n_and, n_or, n_xor, n_i31, nI_leI, nI_ltI, n_e0, n_eq, n_m1e, n_l0, n_g0, n_p0, n_q0, n_cl, n_in, n_sub, n_shr, n_shl, n_div, bI_0, n_01, n_11, bI_or, not_false_eq_true, forall_const, not_true_eq_false, false_imp_iff, true_imp_iff]
      refine br_f (by omega) ?_
      refine xhv_of pl.obj ?_
      refine Ev_use (ev_playOut _ a most 0 i (2 * i) bar wo T h0 ha hl n hT (by omega) hm (by decide) (by omega)) ?_
      dsimp only [wpI, xop, xcall, xli, xlj, xlf, xld, xla, xlg, xst, xst2, xc1, pI, pJ, pF, pD, pR, pA, p1, p0, xpop, xpush, xsm, xhas, xif, xic, xsw, xrf, xret, xrtl, xrtf, xrtd, xrta, xrtv, xfit, xnew, cond_true, cond_false, f40, f41, f42, f43, List.length_cons, List.length_nil, Nat.reduceAdd, Nat.reduceSub, Nat.reduceMul, Nat.reduceBEq, List.map_cons, List.map_nil, List.headD_cons, List.getElem?_cons_zero, List.getElem?_cons_succ, List.set_cons_zero, List.set_cons_succ]
      refine xhv_of p1.obj ?_
      refine Ev_use (ev_playOut _ a most 1 i (2 * i + 1) bar wo _ h0 ha hl n1 hT1 (by omega) hm (by decide) (by omega)) ?_
      dsimp only [wpI, xop, xcall, xli, xlj, xlf, xld, xla, xlg, xst, xst2, xc1, pI, pJ, pF, pD, pR, pA, p1, p0, xpop, xpush, xsm, xhas, xif, xic, xsw, xrf, xret, xrtl, xrtf, xrtd, xrta, xrtv, xfit, xnew, cond_true, cond_false, f40, f41, f42, f43, List.length_cons, List.length_nil, Nat.reduceAdd, Nat.reduceSub, Nat.reduceMul, Nat.reduceBEq, List.map_cons, List.map_nil, List.headD_cons, List.getElem?_cons_zero, List.getElem?_cons_succ, List.set_cons_zero, List.set_cons_succ]
      try simp (disch := omega) only [nI_add, n_and, n_or, n_xor, n_i31, nI_leI, nI_ltI, n_e0, n_eq, n_m1e, n_l0, n_g0, n_p0, n_q0, n_cl, n_in, n_sub, n_shr, n_shl, n_div, bI_0, n_01, n_11, bI_or, not_false_eq_true, forall_const, not_true_eq_false, false_imp_iff, true_imp_iff]
      exact ih (i + 1) _ (by omega) (poT_n n1) (poT_le hT1) c s hc hs hq
  have e264 : (nI (2 * 132)).toNatClampNeg = 264 := by decide +kernel
  have t264 : nI 2 * nI 132 = nI (2 * 132) := pk_mul _ _
  refine hK 0 _ _ _ _ _ _ _ _ rfl ?_
  dsimp only [k_L_init_0, wpI, xop, xcall, xli, xlj, xlf, xld, xla, xlg, xst, xst2, xc1, pI, pJ, pF, pD, pR, pA, p1, p0, xpop, xpush, xsm, xhas, xif, xic, xsw, xrf, xret, xrtl, xrtf, xrtd, xrta, xrtv, xfit, xnew, cond_true, cond_false, f40, f41, f42, f43, List.length_cons, List.length_nil, Nat.reduceAdd, Nat.reduceSub, Nat.reduceMul, Nat.reduceBEq, List.map_cons, List.map_nil, List.headD_cons, List.getElem?_cons_zero, List.getElem?_cons_succ, List.set_cons_zero, List.set_cons_succ]
  refine xhv_of (g_0 _ _ _) ?_
  rw [s_0]
  dsimp only [wpI, xop, xcall, xli, xlj, xlf, xld, xla, xlg, xst, xst2, xc1, pI, pJ, pF, pD, pR, pA, p1, p0, xpop, xpush, xsm, xhas, xif, xic, xsw, xrf, xret, xrtl, xrtf, xrtd, xrta, xrtv, xfit, xnew, cond_true, cond_false, f40, f41, f42, f43, List.length_cons, List.length_nil, Nat.reduceAdd, Nat.reduceSub, Nat.reduceMul, Nat.reduceBEq, List.map_cons, List.map_nil, List.headD_cons, List.getElem?_cons_zero, List.getElem?_cons_succ, List.set_cons_zero, List.set_cons_succ]
  refine xhv_of (g_0 _ _ _) ?_
  rw [s_0]
  dsimp only [wpI, xop, xcall, xli, xlj, xlf, xld, xla, xlg, xst, xst2, xc1, pI, pJ, pF, pD, pR, pA, p1, p0, xpop, xpush, xsm, xhas, xif, xic, xsw, xrf, xret, xrtl, xrtf, xrtd, xrta, xrtv, xfit, xnew, cond_true, cond_false, f40, f41, f42, f43, List.length_cons, List.length_nil, Nat.reduceAdd, Nat.reduceSub, Nat.reduceMul, Nat.reduceBEq, List.map_cons, List.map_nil, List.headD_cons, List.getElem?_cons_zero, List.getElem?_cons_succ, List.set_cons_zero, List.set_cons_succ]
  refine xhv_of (g_0 _ _ _) ?_
  rw [s_0]
  dsimp only [wpI, xop, xcall, xli, xlj, xlf, xld, xla, xlg, xst, xst2, xc1, pI, pJ, pF, pD, pR, pA, p1, p0, xpop, xpush, xsm, xhas, xif, xic, xsw, xrf, xret, xrtl, xrtf, xrtd, xrta, xrtv, xfit, xnew, cond_true, cond_false, f40, f41, f42, f43, List.length_cons, List.length_nil, Nat.reduceAdd, Nat.reduceSub, Nat.reduceMul, Nat.reduceBEq, List.map_cons, List.map_nil, List.headD_cons, List.getElem?_cons_zero, List.getElem?_cons_succ, List.set_cons_zero, List.set_cons_succ]
  refine ⟨bI_01 _, ?_⟩
  refine xhv_of (g_0 _ _ _) ?_
  rw [s_0]
  dsimp only [wpI, xop, xcall, xli, xlj, xlf, xld, xla, xlg, xst, xst2, xc1, pI, pJ, pF, pD, pR, pA, p1, p0, xpop, xpush, xsm, xhas, xif, xic, xsw, xrf, xret, xrtl, xrtf, xrtd, xrta, xrtv, xfit, xnew, cond_true, cond_false, f40, f41, f42, f43, List.length_cons, List.length_nil, Nat.reduceAdd, Nat.reduceSub, Nat.reduceMul, Nat.reduceBEq, List.map_cons, List.map_nil, List.headD_cons, List.getElem?_cons_zero, List.getElem?_cons_succ, List.set_cons_zero, List.set_cons_succ]
  refine ⟨bI_01 _, ?_⟩
  refine xal_of (by omega) (hat _) ?_
  rw [List.length_map, shapes_len, pk_mul]
  simp only [List.length_append, List.length_cons, List.length_nil, List.append_assoc, List.cons_append, List.nil_append, e264, Nat.zero_add]
  try dsimp only [xtag]
  refine ⟨by decide, by decide, trivial, by decide, by decide, by omega, ⟨wr (by omega), wr (by omega), trivial, trivial, trivial, trivial⟩, ⟨wr (by omega), trivial⟩,
    xwH_app (xwH_le (Nat.le_succ _) hw) ⟨⟨wr (by omega), trivial, trivial, trivial, trivial, trivial, trivial, trivial⟩, trivial⟩, ?_⟩
  refine xhv_of (g_0 _ _ _) ?_
  rw [s_0]
  dsimp only [wpI, xop, xcall, xli, xlj, xlf, xld, xla, xlg, xst, xst2, xc1, pI, pJ, pF, pD, pR, pA, p1, p0, xpop, xpush, xsm, xhas, xif, xic, xsw, xrf, xret, xrtl, xrtf, xrtd, xrta, xrtv, xfit, xnew, cond_true, cond_false, f40, f41, f42, f43, List.length_cons, List.length_nil, Nat.reduceAdd, Nat.reduceSub, Nat.reduceMul, Nat.reduceBEq, List.map_cons, List.map_nil, List.headD_cons, List.getElem?_cons_zero, List.getElem?_cons_succ, List.set_cons_zero, List.set_cons_succ]
  refine xal_of (by omega) (hat _) ?_
  rw [List.length_map, shapes_len, pk_mul]
  simp only [List.length_append, List.length_cons, List.length_nil, List.append_assoc, List.cons_append, List.nil_append, e264, Nat.zero_add]
  try dsimp only [xtag]
  refine ⟨by decide, by decide, trivial, by decide, by decide, by omega, ⟨wr (by omega), wr (by omega), trivial, trivial, trivial, trivial⟩, ⟨wr (by omega), trivial⟩,
    xwH_app (xwH_le (by omega) hw) ⟨⟨wr (by omega), trivial, trivial, trivial, wr (by omega), trivial, trivial, trivial⟩, trivial, trivial⟩, ?_⟩
  refine xhv_of (g_0 _ _ _) ?_
  rw [s_0]
  dsimp only [wpI, xop, xcall, xli, xlj, xlf, xld, xla, xlg, xst, xst2, xc1, pI, pJ, pF, pD, pR, pA, p1, p0, xpop, xpush, xsm, xhas, xif, xic, xsw, xrf, xret, xrtl, xrtf, xrtd, xrta, xrtv, xfit, xnew, cond_true, cond_false, f40, f41, f42, f43, List.length_cons, List.length_nil, Nat.reduceAdd, Nat.reduceSub, Nat.reduceMul, Nat.reduceBEq, List.map_cons, List.map_nil, List.headD_cons, List.getElem?_cons_zero, List.getElem?_cons_succ, List.set_cons_zero, List.set_cons_succ]
  refine xal_of (by omega) (hat _) ?_
  rw [List.length_map, shapes_len, pk_mul]
  simp only [List.length_append, List.length_cons, List.length_nil, List.append_assoc, List.cons_append, List.nil_append, e264, Nat.zero_add]
  try dsimp only [xtag]
  refine ⟨by decide, by decide, trivial, by decide, by decide, by omega, ⟨wr (by omega), wr (by omega), trivial, trivial, trivial, trivial⟩, ⟨wr (by omega), trivial⟩,
    xwH_app (xwH_le (by omega) hw) ⟨⟨wr (by omega), trivial, trivial, trivial, wr (by omega), wr (by omega), trivial, trivial⟩, trivial, trivial, trivial⟩, ?_⟩
  refine xhv_of (g_0 _ _ _) ?_
  rw [s_0]
  dsimp only [wpI, xop, xcall, xli, xlj, xlf, xld, xla, xlg, xst, xst2, xc1, pI, pJ, pF, pD, pR, pA, p1, p0, xpop, xpush, xsm, xhas, xif, xic, xsw, xrf, xret, xrtl, xrtf, xrtd, xrta, xrtv, xfit, xnew, cond_true, cond_false, f40, f41, f42, f43, List.length_cons, List.length_nil, Nat.reduceAdd, Nat.reduceSub, Nat.reduceMul, Nat.reduceBEq, List.map_cons, List.map_nil, List.headD_cons, List.getElem?_cons_zero, List.getElem?_cons_succ, List.set_cons_zero, List.set_cons_succ]
  have eB : (List.replicate 264 (0 : Int32)) = (List.replicate 264 false).map bI := by rw [List.map_replicate]; rfl
  have eN : (List.replicate 264 (0 : Int32)) = (List.replicate 264 0).map nI := by rw [List.map_replicate]; rfl
  have eH : h0 ++ [(5, [], [.ref a, .int (nI most), .int (bI bar), .int (bI wo), .ref (h0.length + 1), .ref (h0.length + 2), .ref (h0.length + 3)]), (2, List.replicate 264 0, []), (0, List.replicate 264 0, []), (0, List.replicate 264 0, [])] = hP h0 a most bar wo T00 := by
    unfold hP T00
    rw [← eB, ← eN]
  rw [eH]
  exact loop 132 0 T00 rfl T00_3 T00_B 3 792 (Nat.le_refl _) (Nat.le_refl _) hq
end
section
/-! ===== the class: what the parts of the calls do ===== -/
/-- the object, its row of numbers, and what else lies there -/
abbrev hN1 (N : List Nat) (vs : List Value) (g : xH) : xH := (6, [], .ref 1 :: vs) :: (0, N.map nI, []) :: g
abbrev hB (N V S C : List Nat) (P : List Value) (sv tl : Nat) (has : Bool) (g : xH) : xH := (6, [], [.ref 1, .ref 2, .int (nI sv), .ref 3, .int (bI has), .ref 4, .int (nI tl), .ref 5, .ref 6]) :: (0, N.map nI, []) :: (0, V.map nI, []) :: (0, S.map nI, []) :: (1, C.map nI, []) :: (0, shapesN.map nI, []) :: (4, [], P) :: g
theorem nI_set (l : List Nat) (i v : Nat) : (l.map nI).set i (nI v) = (l.set i v).map nI := List.map_set.symm
theorem gs_eq {l : List Nat} {i v : Nat} (h : i < l.length) : (l.set i v).getD i 0 = v := by
  rw [List.getD_eq_getElem?_getD, List.getElem?_set_self h]
  rfl
theorem gs_ne {l : List Nat} {i j v : Nat} (h : i ≠ j) : (l.set i v).getD j 0 = l.getD j 0 := by
  rw [List.getD_eq_getElem?_getD, List.getElem?_set_ne h, List.getD_eq_getElem?_getD]
def isRowB (x : Int32) : Bool := decide (0 ≤ x) && decide (x < nI 5)
set_option maxRecDepth 100000 in
set_option maxHeartbeats 4000000 in
theorem ev_isRow (d : Nat) (x : Int32) (h : xH) : Ev xT (d + 1) N_B_isRow [.int x] h (Rt (some (.int (bI (isRowB x)))) h) NX := by
  refine Ev_intro t_B_isRow (Nat.le_of_ble_eq_true rfl) ?_
  intro Q X hQ hX K hK
  show K 0 [some (.int x)] [] _ 0 0
  have hq := hQ _ _ ⟨rfl, rfl⟩
  have f1 : isRowB x = false → K 1 [some (.int x)] [] h 0 0 := by
    intro e
    rw [e] at hq
    refine hK 1 _ _ _ _ _ _ _ _ rfl ?_
    dsimp only [k_B_isRow_1, hN1, hB, wpI, xop, xcall, xli, xlj, xlf, xld, xla, xlg, xst, xst2, xc1, pI, pJ, pF, pD, pR, pA, p1, p0, xpop, xpush, xsm, xhas, xif, xic, xsw, xai, xal, xhi, xhv, xrf, xret, xrtl, xrtf, xrtd, xrta, xrtv, xfit, xnew, cond_true, cond_false, f40, f41, f42, f43, List.length_cons, List.length_nil, Nat.reduceAdd, Nat.reduceSub, Nat.reduceMul, Nat.reduceBEq, List.map_cons, List.map_nil, List.headD_cons, List.getElem?_cons_zero, List.getElem?_cons_succ, List.set_cons_zero, List.set_cons_succ]
    refine hK 2 _ _ _ _ _ _ _ _ rfl ?_
    dsimp only [k_B_isRow_2, hN1, hB, wpI, xop, xcall, xli, xlj, xlf, xld, xla, xlg, xst, xst2, xc1, pI, pJ, pF, pD, pR, pA, p1, p0, xpop, xpush, xsm, xhas, xif, xic, xsw, xai, xal, xhi, xhv, xrf, xret, xrtl, xrtf, xrtd, xrta, xrtv, xfit, xnew, cond_true, cond_false, f40, f41, f42, f43, List.length_cons, List.length_nil, Nat.reduceAdd, Nat.reduceSub, Nat.reduceMul, Nat.reduceBEq, List.map_cons, List.map_nil, List.headD_cons, List.getElem?_cons_zero, List.getElem?_cons_succ, List.set_cons_zero, List.set_cons_succ]
    exact ⟨Or.inl rfl, Nat.le_refl _, Nat.le_refl _, hq⟩
  refine hK 0 _ _ _ _ _ _ _ _ rfl ?_
  dsimp only [k_B_isRow_0, hN1, hB, wpI, xop, xcall, xli, xlj, xlf, xld, xla, xlg, xst, xst2, xc1, pI, pJ, pF, pD, pR, pA, p1, p0, xpop, xpush, xsm, xhas, xif, xic, xsw, xai, xal, xhi, xhv, xrf, xret, xrtl, xrtf, xrtd, xrta, xrtv, xfit, xnew, cond_true, cond_false, f40, f41, f42, f43, List.length_cons, List.length_nil, Nat.reduceAdd, Nat.reduceSub, Nat.reduceMul, Nat.reduceBEq, List.map_cons, List.map_nil, List.headD_cons, List.getElem?_cons_zero, List.getElem?_cons_succ, List.set_cons_zero, List.set_cons_succ]
  refine ⟨fun z => f1 ?_, fun z => ⟨fun z2 => f1 ?_, fun z2 => ?_⟩⟩
  · unfold isRowB
    rw [decide_eq_false (Int32.not_le.mpr z)]
    rfl
  · unfold isRowB
    rw [decide_eq_false (Int32.not_lt.mpr z2), Bool.and_false]
  · have e : isRowB x = true := by
      unfold isRowB
      rw [decide_eq_true (Int32.not_lt.mp z), decide_eq_true (Int32.not_le.mp z2)]
      rfl
    rw [e] at hq
    refine hK 2 _ _ _ _ _ _ _ _ rfl ?_
    dsimp only [k_B_isRow_2, hN1, hB, wpI, xop, xcall, xli, xlj, xlf, xld, xla, xlg, xst, xst2, xc1, pI, pJ, pF, pD, pR, pA, p1, p0, xpop, xpush, xsm, xhas, xif, xic, xsw, xai, xal, xhi, xhv, xrf, xret, xrtl, xrtf, xrtd, xrta, xrtv, xfit, xnew, cond_true, cond_false, f40, f41, f42, f43, List.length_cons, List.length_nil, Nat.reduceAdd, Nat.reduceSub, Nat.reduceMul, Nat.reduceBEq, List.map_cons, List.map_nil, List.headD_cons, List.getElem?_cons_zero, List.getElem?_cons_succ, List.set_cons_zero, List.set_cons_succ]
    exact ⟨Or.inr rfl, Nat.le_refl _, Nat.le_refl _, hq⟩
/-- the row of numbers is of a state -/
def stN (N : List Nat) : Prop := N.length = 18 ∧ N.getD 0 0 < 32768 ∧ N.getD 1 0 < 2 ∧ 1 ≤ N.getD 3 0 ∧ N.getD 3 0 < 4 ∧ N.getD 4 0 < 2 ∧ N.getD 5 0 < 2
def barB (N : List Nat) : Bool := N.getD 4 0 == 1
set_option maxRecDepth 100000 in
set_option maxHeartbeats 4000000 in
theorem ev_isBarring (d : Nat) (N : List Nat) (vs : List Value) (g : xH) (ok : stN N) : Ev xT (d + 1) N_B_isBarring [.ref 0] (hN1 N vs g) (Rt (some (.int (bI (barB N)))) (hN1 N vs g)) NX := by
  refine Ev_intro t_B_isBarring (Nat.le_of_ble_eq_true rfl) ?_
  intro Q X hQ hX K hK
  show K 0 [some (.ref 0)] [] _ 0 0
  have hq := hQ _ _ ⟨rfl, rfl⟩
  obtain ⟨hN, h0, h1, h3, h3', h4, h5⟩ := ok
  unfold barB at hq
  refine hK 0 _ _ _ _ _ _ _ _ rfl ?_
  dsimp only [k_B_isBarring_0, hN1, hB, wpI, xop, xcall, xli, xlj, xlf, xld, xla, xlg, xst, xst2, xc1, pI, pJ, pF, pD, pR, pA, p1, p0, xpop, xpush, xsm, xhas, xif, xic, xsw, xai, xal, xhi, xhv, xrf, xret, xrtl, xrtf, xrtd, xrta, xrtv, xfit, xnew, cond_true, cond_false, f40, f41, f42, f43, List.length_cons, List.length_nil, Nat.reduceAdd, Nat.reduceSub, Nat.reduceMul, Nat.reduceBEq, List.map_cons, List.map_nil, List.headD_cons, List.getElem?_cons_zero, List.getElem?_cons_succ, List.set_cons_zero, List.set_cons_succ]
  try simp (disch := omega) only [nI_add, n_and, n_or, n_xor, n_i31, nI_leI, nI_ltI, n_e0, n_eq, n_m1e, n_l0, n_g0, n_p0, n_q0, n_cl, n_in, n_sub, n_shr, n_shl, n_div, bI_0, n_01, n_11, bI_or, not_false_eq_true, forall_const, not_true_eq_false, false_imp_iff, true_imp_iff, List.length_map, List.length_set, hN, nL_at, nI_set, Nat.reduceLT, true_and, and_true, pk_mul]
  refine ⟨fun z => ?_, fun z => ?_⟩
  · rw [beq_eq_false_iff_ne.mpr z] at hq
    refine hK 1 _ _ _ _ _ _ _ _ rfl ?_
    dsimp only [k_B_isBarring_1, hN1, hB, wpI, xop, xcall, xli, xlj, xlf, xld, xla, xlg, xst, xst2, xc1, pI, pJ, pF, pD, pR, pA, p1, p0, xpop, xpush, xsm, xhas, xif, xic, xsw, xai, xal, xhi, xhv, xrf, xret, xrtl, xrtf, xrtd, xrta, xrtv, xfit, xnew, cond_true, cond_false, f40, f41, f42, f43, List.length_cons, List.length_nil, Nat.reduceAdd, Nat.reduceSub, Nat.reduceMul, Nat.reduceBEq, List.map_cons, List.map_nil, List.headD_cons, List.getElem?_cons_zero, List.getElem?_cons_succ, List.set_cons_zero, List.set_cons_succ]
    refine hK 2 _ _ _ _ _ _ _ _ rfl ?_
    dsimp only [k_B_isBarring_2, hN1, hB, wpI, xop, xcall, xli, xlj, xlf, xld, xla, xlg, xst, xst2, xc1, pI, pJ, pF, pD, pR, pA, p1, p0, xpop, xpush, xsm, xhas, xif, xic, xsw, xai, xal, xhi, xhv, xrf, xret, xrtl, xrtf, xrtd, xrta, xrtv, xfit, xnew, cond_true, cond_false, f40, f41, f42, f43, List.length_cons, List.length_nil, Nat.reduceAdd, Nat.reduceSub, Nat.reduceMul, Nat.reduceBEq, List.map_cons, List.map_nil, List.headD_cons, List.getElem?_cons_zero, List.getElem?_cons_succ, List.set_cons_zero, List.set_cons_succ]
    exact ⟨Or.inl rfl, Nat.le_refl _, Nat.le_refl _, hq⟩
  · rw [beq_iff_eq.mpr z] at hq
    refine hK 2 _ _ _ _ _ _ _ _ rfl ?_
    dsimp only [k_B_isBarring_2, hN1, hB, wpI, xop, xcall, xli, xlj, xlf, xld, xla, xlg, xst, xst2, xc1, pI, pJ, pF, pD, pR, pA, p1, p0, xpop, xpush, xsm, xhas, xif, xic, xsw, xai, xal, xhi, xhv, xrf, xret, xrtl, xrtf, xrtd, xrta, xrtv, xfit, xnew, cond_true, cond_false, f40, f41, f42, f43, List.length_cons, List.length_nil, Nat.reduceAdd, Nat.reduceSub, Nat.reduceMul, Nat.reduceBEq, List.map_cons, List.map_nil, List.headD_cons, List.getElem?_cons_zero, List.getElem?_cons_succ, List.set_cons_zero, List.set_cons_succ]
    exact ⟨Or.inr rfl, Nat.le_refl _, Nat.le_refl _, hq⟩
def rsnN (N : List Nat) (r b : Nat) : Nat := if N.getD 3 0 < b then 1 else if (robN (N.getD 0 0) (N.getD 1 0) r b).2 = 0 then
    (if barB N = true ∧ pop (settledN (robN (N.getD 0 0) (N.getD 1 0) r b).1) < pop (robN (N.getD 0 0) (N.getD 1 0) r b).1 then 3 else 0) else 2
set_option maxRecDepth 100000 in
set_option maxHeartbeats 4000000 in
theorem ev_reasonAgainst (d : Nat) (N : List Nat) (vs : List Value) (g : xH) (r b : Nat) (ok : stN N) (hr : r < 5) (hb : b < 100) : Ev xT (d + 3) N_B_reasonAgainst [.ref 0, .int (nI r), .int (nI b)] (hN1 N vs g) (Rt (some (.int (nI (rsnN N r b)))) (hN1 N vs g)) NX := by
  refine Ev_intro t_B_reasonAgainst (Nat.le_of_ble_eq_true rfl) ?_
  intro Q X hQ hX K hK
  show K 0 [some (.ref 0), some (.int (nI r)), some (.int (nI b)), none] [] _ 0 0
  have hq := hQ _ _ ⟨rfl, rfl⟩
  have ok' := ok
  obtain ⟨hN, h0, h1, h3, h3', h4, h5⟩ := ok
  have hp := pop_settled (robN (N.getD 0 0) (N.getD 1 0) r b).1
  have hp2 := pop_le (rob_lt (t := N.getD 1 0) (r := r) (b := b) h0)
  unfold rsnN at hq
  refine hK 0 _ _ _ _ _ _ _ _ rfl ?_
  dsimp only [k_B_reasonAgainst_0, hN1, hB, wpI, xop, xcall, xli, xlj, xlf, xld, xla, xlg, xst, xst2, xc1, pI, pJ, pF, pD, pR, pA, p1, p0, xpop, xpush, xsm, xhas, xif, xic, xsw, xai, xal, xhi, xhv, xrf, xret, xrtl, xrtf, xrtd, xrta, xrtv, xfit, xnew, cond_true, cond_false, f40, f41, f42, f43, List.length_cons, List.length_nil, Nat.reduceAdd, Nat.reduceSub, Nat.reduceMul, Nat.reduceBEq, List.map_cons, List.map_nil, List.headD_cons, List.getElem?_cons_zero, List.getElem?_cons_succ, List.set_cons_zero, List.set_cons_succ]
  try simp (disch := omega) only [nI_add, n_and, n_or, n_xor, n_i31, nI_leI, nI_ltI, n_e0, n_eq, n_m1e, n_l0, n_g0, n_p0, n_q0, n_cl, n_in, n_sub, n_shr, n_shl, n_div, bI_0, n_01, n_11, bI_or, not_false_eq_true, forall_const, not_true_eq_false, false_imp_iff, true_imp_iff, List.length_map, List.length_set, hN, nL_at, nI_set, Nat.reduceLT, true_and, and_true, pk_mul]
  refine ⟨fun z => ?_, fun z => ?_⟩
  · rw [if_neg (by omega)] at hq
    refine hK 1 _ _ _ _ _ _ _ _ rfl ?_
    dsimp only [k_B_reasonAgainst_1, hN1, hB, wpI, xop, xcall, xli, xlj, xlf, xld, xla, xlg, xst, xst2, xc1, pI, pJ, pF, pD, pR, pA, p1, p0, xpop, xpush, xsm, xhas, xif, xic, xsw, xai, xal, xhi, xhv, xrf, xret, xrtl, xrtf, xrtd, xrta, xrtv, xfit, xnew, cond_true, cond_false, f40, f41, f42, f43, List.length_cons, List.length_nil, Nat.reduceAdd, Nat.reduceSub, Nat.reduceMul, Nat.reduceBEq, List.map_cons, List.map_nil, List.headD_cons, List.getElem?_cons_zero, List.getElem?_cons_succ, List.set_cons_zero, List.set_cons_succ]
    try simp (disch := omega) only [nI_add, n_and, n_or, n_xor, n_i31, nI_leI, nI_ltI, n_e0, n_eq, n_m1e, n_l0, n_g0, n_p0, n_q0, n_cl, n_in, n_sub, n_shr, n_shl, n_div, bI_0, n_01, n_11, bI_or, not_false_eq_true, forall_const, not_true_eq_false, false_imp_iff, true_imp_iff, List.length_map, List.length_set, hN, nL_at, nI_set, Nat.reduceLT, true_and, and_true, pk_mul]
    refine Ev_use (ev_fallenBy _ _ _ r b _ h0 h1 hr hb) ?_
    dsimp only [hN1, hB, wpI, xop, xcall, xli, xlj, xlf, xld, xla, xlg, xst, xst2, xc1, pI, pJ, pF, pD, pR, pA, p1, p0, xpop, xpush, xsm, xhas, xif, xic, xsw, xai, xal, xhi, xhv, xrf, xret, xrtl, xrtf, xrtd, xrta, xrtv, xfit, xnew, cond_true, cond_false, f40, f41, f42, f43, List.length_cons, List.length_nil, Nat.reduceAdd, Nat.reduceSub, Nat.reduceMul, Nat.reduceBEq, List.map_cons, List.map_nil, List.headD_cons, List.getElem?_cons_zero, List.getElem?_cons_succ, List.set_cons_zero, List.set_cons_succ]
    unfold fallI
    by_cases z2 : (robN (N.getD 0 0) (N.getD 1 0) r b).2 = 0
    · rw [if_pos z2] at hq ⊢
      try simp (disch := omega) only [nI_add, n_and, n_or, n_xor, n_i31, nI_leI, nI_ltI, n_e0, n_eq, n_m1e, n_l0, n_g0, n_p0, n_q0, n_cl, n_in, n_sub, n_shr, n_shl, n_div, bI_0, n_01, n_11, bI_or, not_false_eq_true, forall_const, not_true_eq_false, false_imp_iff, true_imp_iff, List.length_map, List.length_set, hN, nL_at, nI_set, Nat.reduceLT, true_and, and_true, pk_mul]
      have f3 : Q (some (.int (nI 0))) (hN1 N vs g) → ∀ L3, K 3 [some (.ref 0), some (.int (nI r)), some (.int (nI b)), L3] [] (hN1 N vs g) 0 0 := by
        intro hq L3
        refine hK 3 _ _ _ _ _ _ _ _ rfl ?_
        dsimp only [k_B_reasonAgainst_3, hN1, hB, wpI, xop, xcall, xli, xlj, xlf, xld, xla, xlg, xst, xst2, xc1, pI, pJ, pF, pD, pR, pA, p1, p0, xpop, xpush, xsm, xhas, xif, xic, xsw, xai, xal, xhi, xhv, xrf, xret, xrtl, xrtf, xrtd, xrta, xrtv, xfit, xnew, cond_true, cond_false, f40, f41, f42, f43, List.length_cons, List.length_nil, Nat.reduceAdd, Nat.reduceSub, Nat.reduceMul, Nat.reduceBEq, List.map_cons, List.map_nil, List.headD_cons, List.getElem?_cons_zero, List.getElem?_cons_succ, List.set_cons_zero, List.set_cons_succ]
        refine hK 4 _ _ _ _ _ _ _ _ rfl ?_
        dsimp only [k_B_reasonAgainst_4, hN1, hB, wpI, xop, xcall, xli, xlj, xlf, xld, xla, xlg, xst, xst2, xc1, pI, pJ, pF, pD, pR, pA, p1, p0, xpop, xpush, xsm, xhas, xif, xic, xsw, xai, xal, xhi, xhv, xrf, xret, xrtl, xrtf, xrtd, xrta, xrtv, xfit, xnew, cond_true, cond_false, f40, f41, f42, f43, List.length_cons, List.length_nil, Nat.reduceAdd, Nat.reduceSub, Nat.reduceMul, Nat.reduceBEq, List.map_cons, List.map_nil, List.headD_cons, List.getElem?_cons_zero, List.getElem?_cons_succ, List.set_cons_zero, List.set_cons_succ]
        exact ⟨Nat.le_refl _, Nat.le_refl _, hq⟩
      refine hK 2 _ _ _ _ _ _ _ _ rfl ?_
      dsimp only [k_B_reasonAgainst_2, hN1, hB, wpI, xop, xcall, xli, xlj, xlf, xld, xla, xlg, xst, xst2, xc1, pI, pJ, pF, pD, pR, pA, p1, p0, xpop, xpush, xsm, xhas, xif, xic, xsw, xai, xal, xhi, xhv, xrf, xret, xrtl, xrtf, xrtd, xrta, xrtv, xfit, xnew, cond_true, cond_false, f40, f41, f42, f43, List.length_cons, List.length_nil, Nat.reduceAdd, Nat.reduceSub, Nat.reduceMul, Nat.reduceBEq, List.map_cons, List.map_nil, List.headD_cons, List.getElem?_cons_zero, List.getElem?_cons_succ, List.set_cons_zero, List.set_cons_succ]
      refine Ev_use (ev_isBarring _ N vs g ok') ?_
      dsimp only [hN1, hB, wpI, xop, xcall, xli, xlj, xlf, xld, xla, xlg, xst, xst2, xc1, pI, pJ, pF, pD, pR, pA, p1, p0, xpop, xpush, xsm, xhas, xif, xic, xsw, xai, xal, xhi, xhv, xrf, xret, xrtl, xrtf, xrtd, xrta, xrtv, xfit, xnew, cond_true, cond_false, f40, f41, f42, f43, List.length_cons, List.length_nil, Nat.reduceAdd, Nat.reduceSub, Nat.reduceMul, Nat.reduceBEq, List.map_cons, List.map_nil, List.headD_cons, List.getElem?_cons_zero, List.getElem?_cons_succ, List.set_cons_zero, List.set_cons_succ]
      try simp (disch := omega) only [nI_add, n_and, n_or, n_xor, n_i31, nI_leI, nI_ltI, n_e0, n_eq, n_m1e, n_l0, n_g0, n_p0, n_q0, n_cl, n_in, n_sub, n_shr, n_shl, n_div, bI_0, n_01, n_11, bI_or, not_false_eq_true, forall_const, not_true_eq_false, false_imp_iff, true_imp_iff, List.length_map, List.length_set, hN, nL_at, nI_set, Nat.reduceLT, true_and, and_true, pk_mul]
      refine ⟨fun z3 => f3 ?_ _, fun z3 => ⟨fun z4 => f3 ?_ _, fun z4 => ?_⟩⟩
      · rw [if_neg (by rintro ⟨e, _⟩; rw [e] at z3; exact Bool.noConfusion z3)] at hq
        exact hq
      · rw [if_neg (by rintro ⟨_, e⟩; omega)] at hq
        exact hq
      · rw [if_pos ⟨b_nf z3, by omega⟩] at hq
        refine hK 4 _ _ _ _ _ _ _ _ rfl ?_
        dsimp only [k_B_reasonAgainst_4, hN1, hB, wpI, xop, xcall, xli, xlj, xlf, xld, xla, xlg, xst, xst2, xc1, pI, pJ, pF, pD, pR, pA, p1, p0, xpop, xpush, xsm, xhas, xif, xic, xsw, xai, xal, xhi, xhv, xrf, xret, xrtl, xrtf, xrtd, xrta, xrtv, xfit, xnew, cond_true, cond_false, f40, f41, f42, f43, List.length_cons, List.length_nil, Nat.reduceAdd, Nat.reduceSub, Nat.reduceMul, Nat.reduceBEq, List.map_cons, List.map_nil, List.headD_cons, List.getElem?_cons_zero, List.getElem?_cons_succ, List.set_cons_zero, List.set_cons_succ]
        exact ⟨Nat.le_refl _, Nat.le_refl _, hq⟩
    · rw [if_neg z2] at hq ⊢
      refine ⟨fun z => (z rfl).elim, fun _ => ?_⟩
      exact ⟨Nat.le_refl _, Nat.le_refl _, hq⟩
  · rw [if_pos (by omega)] at hq
    exact ⟨Nat.le_refl _, Nat.le_refl _, hq⟩
end
section
/-! ===== the class: what changes the row of numbers ===== -/
theorem nL_u (l : List Nat) (i : Nat) : (l.map nI).getD i 0 = nI (l.getD i 0) := by
  rw [List.getD_eq_getElem?_getD, List.getElem?_map, List.getD_eq_getElem?_getD]
  cases l[i]? <;> rfl
set_option maxRecDepth 100000 in
set_option maxHeartbeats 4000000 in
theorem ev_maskBehind (d : Nat) (N : List Nat) (vs : List Value) (g : xH) (r b : Nat) (ok : stN N) (hr : r < 5) (hb : b < 100) (hz : (robN (N.getD 0 0) (N.getD 1 0) r b).2 = 0) :
    Ev xT (d + 2) N_B_maskBehind [.ref 0, .int (nI r), .int (nI b)] (hN1 N vs g) (Rt (some (.int (nI (settledN (robN (N.getD 0 0) (N.getD 1 0) r b).1)))) (hN1 N vs g)) NX := by
  refine Ev_intro t_B_maskBehind (Nat.le_of_ble_eq_true rfl) ?_
  intro Q X hQ hX K hK
  show K 0 [some (.ref 0), some (.int (nI r)), some (.int (nI b))] [] _ 0 0
  have hq := hQ _ _ ⟨rfl, rfl⟩
  obtain ⟨hN, h0, h1, h3, h3', h4, h5⟩ := ok
  refine hK 0 _ _ _ _ _ _ _ _ rfl ?_
  dsimp only [k_B_maskBehind_0, hN1, hB, wpI, xop, xcall, xli, xlj, xlf, xld, xla, xlg, xst, xst2, xc1, pI, pJ, pF, pD, pR, pA, p1, p0, xpop, xpush, xsm, xhas, xif, xic, xsw, xai, xal, xhi, xhv, xrf, xret, xrtl, xrtf, xrtd, xrta, xrtv, xfit, xnew, cond_true, cond_false, f40, f41, f42, f43, List.length_cons, List.length_nil, Nat.reduceAdd, Nat.reduceSub, Nat.reduceMul, Nat.reduceBEq, List.map_cons, List.map_nil, List.headD_cons, List.getElem?_cons_zero, List.getElem?_cons_succ, List.set_cons_zero, List.set_cons_succ]
  try simp (disch := first | omega | (simp only [List.length_set]; omega)) only [nI_add, n_and, n_or, n_xor, n_i31, nI_leI, nI_ltI, n_e0, n_eq, n_m1e, n_l0, n_g0, n_p0, n_q0, n_cl, n_in, n_sub, n_shr, n_shl, n_div, bI_0, n_01, n_11, bI_or, not_false_eq_true, forall_const, not_true_eq_false, false_imp_iff, true_imp_iff, List.length_map, List.length_set, hN, nL_u, gs_eq, gs_ne, nI_set, Nat.reduceLT, true_and, and_true, pk_mul]
  refine Ev_use (ev_robbed _ _ _ r b _ h0 h1 hr hb) ?_
  dsimp only [hN1, hB, wpI, xop, xcall, xli, xlj, xlf, xld, xla, xlg, xst, xst2, xc1, pI, pJ, pF, pD, pR, pA, p1, p0, xpop, xpush, xsm, xhas, xif, xic, xsw, xai, xal, xhi, xhv, xrf, xret, xrtl, xrtf, xrtd, xrta, xrtv, xfit, xnew, cond_true, cond_false, f40, f41, f42, f43, List.length_cons, List.length_nil, Nat.reduceAdd, Nat.reduceSub, Nat.reduceMul, Nat.reduceBEq, List.map_cons, List.map_nil, List.headD_cons, List.getElem?_cons_zero, List.getElem?_cons_succ, List.set_cons_zero, List.set_cons_succ]
  rw [if_pos hz]
  refine Ev_use (ev_settled _ _ _ (rob_lt h0)) ?_
  dsimp only [hN1, hB, wpI, xop, xcall, xli, xlj, xlf, xld, xla, xlg, xst, xst2, xc1, pI, pJ, pF, pD, pR, pA, p1, p0, xpop, xpush, xsm, xhas, xif, xic, xsw, xai, xal, xhi, xhv, xrf, xret, xrtl, xrtf, xrtd, xrta, xrtv, xfit, xnew, cond_true, cond_false, f40, f41, f42, f43, List.length_cons, List.length_nil, Nat.reduceAdd, Nat.reduceSub, Nat.reduceMul, Nat.reduceBEq, List.map_cons, List.map_nil, List.headD_cons, List.getElem?_cons_zero, List.getElem?_cons_succ, List.set_cons_zero, List.set_cons_succ]
  exact ⟨Nat.le_refl _, Nat.le_refl _, hq⟩
def bitsN (m r : Nat) : Nat := (m >>> rsN r) &&& ((1 <<< (5 - r)) - 1)
theorem bitsN_lt {m r : Nat} (hm : m < 32768) : bitsN m r < 32768 := Nat.lt_of_le_of_lt (Nat.le_trans Nat.and_le_left (by rw [Nat.shiftRight_eq_div_pow]; exact Nat.div_le_self _ _)) hm
def lfN (f : Nat) : Nat → Nat → List Nat → List Nat
  | 0, _, N => N
  | j + 1, r, N => lfN f j (r + 1) (N.set (11 + r) (N.getD (11 + r) 0 + pop (bitsN f r)))
def fallM (u : Nat) : Nat := u &&& (settledN u ^^^ 4294967295)
theorem fallM_lt {u : Nat} (h : u < 32768) : fallM u < 32768 := Nat.lt_of_le_of_lt Nat.and_le_left h
def letN (N : List Nat) (u : Nat) : List Nat := (lfN (fallM u) 5 0 N).set 0 (settledN u)
set_option maxRecDepth 100000 in
set_option maxHeartbeats 4000000 in
theorem ev_letFall (d : Nat) (N : List Nat) (vs : List Value) (g : xH) (u : Nat) (hN : N.length = 18) (hu : u < 32768) :
    Ev xT (d + 2) N_B_letFall [.ref 0, .int (nI u)] (hN1 N vs g) (Rt (some (.int (nI (pop (fallM u))))) (hN1 (letN N u) vs g)) NX := by
  refine Ev_intro t_B_letFall (Nat.le_of_ble_eq_true rfl) ?_
  intro Q X hQ hX K hK
  show K 0 [some (.ref 0), some (.int (nI u)), none, none, none] [] _ 0 0
  have hq := hQ _ _ ⟨rfl, rfl⟩
  unfold letN at hq
  have hf := fallM_lt hu
  have hs := settled_lt hu
  have loop : ∀ (j r : Nat) (N : List Nat), r + j = 5 → N.length = 18 → Q (some (.int (nI (pop (fallM u))))) (hN1 ((lfN (fallM u) j r N).set 0 (settledN u)) vs g) →
      K 1 [some (.ref 0), some (.int (nI u)), some (.int (nI (settledN u))), some (.int (nI (fallM u))), some (.int (nI r))] [] (hN1 N vs g) 0 0 := by
    intro j
    induction j with
    | zero =>
      intro r N hr hN hq
      obtain rfl : r = 5 := by omega
      refine hK 1 _ _ _ _ _ _ _ _ rfl ?_
      dsimp only [k_B_letFall_1, hN1, hB, wpI, xop, xcall, xli, xlj, xlf, xld, xla, xlg, xst, xst2, xc1, pI, pJ, pF, pD, pR, pA, p1, p0, xpop, xpush, xsm, xhas, xif, xic, xsw, xai, xal, xhi, xhv, xrf, xret, xrtl, xrtf, xrtd, xrta, xrtv, xfit, xnew, cond_true, cond_false, f40, f41, f42, f43, List.length_cons, List.length_nil, Nat.reduceAdd, Nat.reduceSub, Nat.reduceMul, Nat.reduceBEq, List.map_cons, List.map_nil, List.headD_cons, List.getElem?_cons_zero, List.getElem?_cons_succ, List.set_cons_zero, List.set_cons_succ]
      refine br_t (by decide) ?_
      refine hK 2 _ _ _ _ _ _ _ _ rfl ?_
      dsimp only [k_B_letFall_2, hN1, hB, wpI, xop, xcall, xli, xlj, xlf, xld, xla, xlg, xst, xst2, xc1, pI, pJ, pF, pD, pR, pA, p1, p0, xpop, xpush, xsm, xhas, xif, xic, xsw, xai, xal, xhi, xhv, xrf, xret, xrtl, xrtf, xrtd, xrta, xrtv, xfit, xnew, cond_true, cond_false, f40, f41, f42, f43, List.length_cons, List.length_nil, Nat.reduceAdd, Nat.reduceSub, Nat.reduceMul, Nat.reduceBEq, List.map_cons, List.map_nil, List.headD_cons, List.getElem?_cons_zero, List.getElem?_cons_succ, List.set_cons_zero, List.set_cons_succ]
      try simp (disch := first | omega | (simp only [List.length_set]; omega)) only [nI_add, n_and, n_or, n_xor, n_i31, nI_leI, nI_ltI, n_e0, n_eq, n_m1e, n_l0, n_g0, n_p0, n_q0, n_cl, n_in, n_sub, n_shr, n_shl, n_div, bI_0, n_01, n_11, bI_or, not_false_eq_true, forall_const, not_true_eq_false, false_imp_iff, true_imp_iff, List.length_map, List.length_set, hN, nL_u, gs_eq, gs_ne, nI_set, Nat.reduceLT, true_and, and_true, pk_mul]
      refine Ev_use (ev_bitCount _ _ _ hf) ?_
      dsimp only [hN1, hB, wpI, xop, xcall, xli, xlj, xlf, xld, xla, xlg, xst, xst2, xc1, pI, pJ, pF, pD, pR, pA, p1, p0, xpop, xpush, xsm, xhas, xif, xic, xsw, xai, xal, xhi, xhv, xrf, xret, xrtl, xrtf, xrtd, xrta, xrtv, xfit, xnew, cond_true, cond_false, f40, f41, f42, f43, List.length_cons, List.length_nil, Nat.reduceAdd, Nat.reduceSub, Nat.reduceMul, Nat.reduceBEq, List.map_cons, List.map_nil, List.headD_cons, List.getElem?_cons_zero, List.getElem?_cons_succ, List.set_cons_zero, List.set_cons_succ]
      exact ⟨Nat.le_refl _, Nat.le_refl _, hq⟩
    | succ j ih =>
      intro r N hr hN hq
      rw [lfN] at hq
      refine hK 1 _ _ _ _ _ _ _ _ rfl ?_
      dsimp only [k_B_letFall_1, hN1, hB, wpI, xop, xcall, xli, xlj, xlf, xld, xla, xlg, xst, xst2, xc1, pI, pJ, pF, pD, pR, pA, p1, p0, xpop, xpush, xsm, xhas, xif, xic, xsw, xai, xal, xhi, xhv, xrf, xret, xrtl, xrtf, xrtd, xrta, xrtv, xfit, xnew, cond_true, cond_false, f40, f41, f42, f43, List.length_cons, List.length_nil, Nat.reduceAdd, Nat.reduceSub, Nat.reduceMul, Nat.reduceBEq, List.map_cons, List.map_nil, List.headD_cons, List.getElem?_cons_zero, List.getElem?_cons_succ, List.set_cons_zero, List.set_cons_succ]
      try simp (disch := first | omega | (simp only [List.length_set]; omega)) only [nI_add, n_and, n_or, n_xor, n_i31, nI_leI, nI_ltI, n_e0, n_eq, n_m1e, n_l0, n_g0, n_p0, n_q0, n_cl, n_in, n_sub, n_shr, n_shl, n_div, bI_0, n_01, n_11, bI_or, not_false_eq_true, forall_const, not_true_eq_false, false_imp_iff, true_imp_iff, List.length_map, List.length_set, hN, nL_u, gs_eq, gs_ne, nI_set, Nat.reduceLT, true_and, and_true, pk_mul]
      refine br_f (by omega) ⟨by omega, ?_⟩
      refine Ev_use (ev_bitsOf _ _ r _ hf (by omega)) ?_
      dsimp only [hN1, hB, wpI, xop, xcall, xli, xlj, xlf, xld, xla, xlg, xst, xst2, xc1, pI, pJ, pF, pD, pR, pA, p1, p0, xpop, xpush, xsm, xhas, xif, xic, xsw, xai, xal, xhi, xhv, xrf, xret, xrtl, xrtf, xrtd, xrta, xrtv, xfit, xnew, cond_true, cond_false, f40, f41, f42, f43, List.length_cons, List.length_nil, Nat.reduceAdd, Nat.reduceSub, Nat.reduceMul, Nat.reduceBEq, List.map_cons, List.map_nil, List.headD_cons, List.getElem?_cons_zero, List.getElem?_cons_succ, List.set_cons_zero, List.set_cons_succ]
      refine Ev_use (ev_bitCount _ _ _ (bitsN_lt hf)) ?_
      dsimp only [hN1, hB, wpI, xop, xcall, xli, xlj, xlf, xld, xla, xlg, xst, xst2, xc1, pI, pJ, pF, pD, pR, pA, p1, p0, xpop, xpush, xsm, xhas, xif, xic, xsw, xai, xal, xhi, xhv, xrf, xret, xrtl, xrtf, xrtd, xrta, xrtv, xfit, xnew, cond_true, cond_false, f40, f41, f42, f43, List.length_cons, List.length_nil, Nat.reduceAdd, Nat.reduceSub, Nat.reduceMul, Nat.reduceBEq, List.map_cons, List.map_nil, List.headD_cons, List.getElem?_cons_zero, List.getElem?_cons_succ, List.set_cons_zero, List.set_cons_succ]
      try simp (disch := first | omega | (simp only [List.length_set]; omega)) only [nI_add, n_and, n_or, n_xor, n_i31, nI_leI, nI_ltI, n_e0, n_eq, n_m1e, n_l0, n_g0, n_p0, n_q0, n_cl, n_in, n_sub, n_shr, n_shl, n_div, bI_0, n_01, n_11, bI_or, not_false_eq_true, forall_const, not_true_eq_false, false_imp_iff, true_imp_iff, List.length_map, List.length_set, hN, nL_u, gs_eq, gs_ne, nI_set, Nat.reduceLT, true_and, and_true, pk_mul]
      refine ⟨by omega, ?_⟩
      exact ih (r + 1) _ (by omega) (List.length_set.trans hN) hq
  refine hK 0 _ _ _ _ _ _ _ _ rfl ?_
  dsimp only [k_B_letFall_0, hN1, hB, wpI, xop, xcall, xli, xlj, xlf, xld, xla, xlg, xst, xst2, xc1, pI, pJ, pF, pD, pR, pA, p1, p0, xpop, xpush, xsm, xhas, xif, xic, xsw, xai, xal, xhi, xhv, xrf, xret, xrtl, xrtf, xrtd, xrta, xrtv, xfit, xnew, cond_true, cond_false, f40, f41, f42, f43, List.length_cons, List.length_nil, Nat.reduceAdd, Nat.reduceSub, Nat.reduceMul, Nat.reduceBEq, List.map_cons, List.map_nil, List.headD_cons, List.getElem?_cons_zero, List.getElem?_cons_succ, List.set_cons_zero, List.set_cons_succ]
  refine Ev_use (ev_settled _ u _ hu) ?_
  dsimp only [hN1, hB, wpI, xop, xcall, xli, xlj, xlf, xld, xla, xlg, xst, xst2, xc1, pI, pJ, pF, pD, pR, pA, p1, p0, xpop, xpush, xsm, xhas, xif, xic, xsw, xai, xal, xhi, xhv, xrf, xret, xrtl, xrtf, xrtd, xrta, xrtv, xfit, xnew, cond_true, cond_false, f40, f41, f42, f43, List.length_cons, List.length_nil, Nat.reduceAdd, Nat.reduceSub, Nat.reduceMul, Nat.reduceBEq, List.map_cons, List.map_nil, List.headD_cons, List.getElem?_cons_zero, List.getElem?_cons_succ, List.set_cons_zero, List.set_cons_succ]
  rw [n_m1]
  try simp (disch := omega) only [nI_add, n_and, n_or, n_xor, n_i31, nI_leI, nI_ltI, n_e0, n_eq, n_m1e, n_l0, n_g0, n_p0, n_q0, n_cl, n_in, n_sub, n_shr, n_shl, n_div, bI_0, n_01, n_11, bI_or, not_false_eq_true, forall_const, not_true_eq_false, false_imp_iff, true_imp_iff]
  exact loop 5 0 N rfl hN hq
theorem place_lt {r p : Nat} (hr : r < 5) (hp : p < 5 - r) : 1 <<< (rsN r + p) < 32768 := by
  have key : ∀ r, r < 5 → ∀ p, p < 5 → p < 5 - r → 1 <<< (rsN r + p) < 32768 := by decide +kernel
  exact key r hr p (by omega) hp
def stealN (N : List Nat) (r b : Nat) : List Nat := letN ((((N.set (6 + r) (N.getD (6 + r) 0 + b)).set (16 + N.getD 1 0) (N.getD (16 + N.getD 1 0) 0 + b)).set 2 (N.getD 2 0 + 1)).set 1 (1 - N.getD 1 0)) (robN (N.getD 0 0) (N.getD 1 0) r b).1
set_option maxRecDepth 100000 in
set_option maxHeartbeats 4000000 in
theorem ev_steal (d : Nat) (N : List Nat) (vs : List Value) (g : xH) (r b : Nat) (ok : stN N) (hr : r < 5) (hb : b < 100) (hz : (robN (N.getD 0 0) (N.getD 1 0) r b).2 = 0) :
    Ev xT (d + 3) N_B_steal [.ref 0, .int (nI r), .int (nI b)] (hN1 N vs g) (Rt (some (.int (nI (pop (fallM (robN (N.getD 0 0) (N.getD 1 0) r b).1))))) (hN1 (stealN N r b) vs g)) NX := by
  refine Ev_intro t_B_steal (Nat.le_of_ble_eq_true rfl) ?_
  intro Q X hQ hX K hK
  show K 0 [some (.ref 0), some (.int (nI r)), some (.int (nI b)), none] [] _ 0 0
  have hq := hQ _ _ ⟨rfl, rfl⟩
  obtain ⟨hN, h0, h1, h3, h3', h4, h5⟩ := ok
  unfold stealN at hq
  refine hK 0 _ _ _ _ _ _ _ _ rfl ?_
  dsimp only [k_B_steal_0, hN1, hB, wpI, xop, xcall, xli, xlj, xlf, xld, xla, xlg, xst, xst2, xc1, pI, pJ, pF, pD, pR, pA, p1, p0, xpop, xpush, xsm, xhas, xif, xic, xsw, xai, xal, xhi, xhv, xrf, xret, xrtl, xrtf, xrtd, xrta, xrtv, xfit, xnew, cond_true, cond_false, f40, f41, f42, f43, List.length_cons, List.length_nil, Nat.reduceAdd, Nat.reduceSub, Nat.reduceMul, Nat.reduceBEq, List.map_cons, List.map_nil, List.headD_cons, List.getElem?_cons_zero, List.getElem?_cons_succ, List.set_cons_zero, List.set_cons_succ]
  try simp (disch := first | omega | (simp only [List.length_set]; omega)) only [nI_add, n_and, n_or, n_xor, n_i31, nI_leI, nI_ltI, n_e0, n_eq, n_m1e, n_l0, n_g0, n_p0, n_q0, n_cl, n_in, n_sub, n_shr, n_shl, n_div, bI_0, n_01, n_11, bI_or, not_false_eq_true, forall_const, not_true_eq_false, false_imp_iff, true_imp_iff, List.length_map, List.length_set, hN, nL_u, gs_eq, gs_ne, nI_set, Nat.reduceLT, true_and, and_true, pk_mul]
  refine ⟨by omega, by omega, by omega, by omega, ?_⟩
  refine Ev_use (ev_robbed _ _ _ r b _ h0 h1 hr hb) ?_
  dsimp only [hN1, hB, wpI, xop, xcall, xli, xlj, xlf, xld, xla, xlg, xst, xst2, xc1, pI, pJ, pF, pD, pR, pA, p1, p0, xpop, xpush, xsm, xhas, xif, xic, xsw, xai, xal, xhi, xhv, xrf, xret, xrtl, xrtf, xrtd, xrta, xrtv, xfit, xnew, cond_true, cond_false, f40, f41, f42, f43, List.length_cons, List.length_nil, Nat.reduceAdd, Nat.reduceSub, Nat.reduceMul, Nat.reduceBEq, List.map_cons, List.map_nil, List.headD_cons, List.getElem?_cons_zero, List.getElem?_cons_succ, List.set_cons_zero, List.set_cons_succ]
  rw [if_pos hz]
  refine Ev_use (ev_letFall _ _ vs g _ (by simp only [List.length_set]; exact hN) (rob_lt h0)) ?_
  dsimp only [hN1, hB, wpI, xop, xcall, xli, xlj, xlf, xld, xla, xlg, xst, xst2, xc1, pI, pJ, pF, pD, pR, pA, p1, p0, xpop, xpush, xsm, xhas, xif, xic, xsw, xai, xal, xhi, xhv, xrf, xret, xrtl, xrtf, xrtd, xrta, xrtv, xfit, xnew, cond_true, cond_false, f40, f41, f42, f43, List.length_cons, List.length_nil, Nat.reduceAdd, Nat.reduceSub, Nat.reduceMul, Nat.reduceBEq, List.map_cons, List.map_nil, List.headD_cons, List.getElem?_cons_zero, List.getElem?_cons_succ, List.set_cons_zero, List.set_cons_succ]
  exact ⟨Nat.le_refl _, Nat.le_refl _, hq⟩
def knockN (N : List Nat) (r p : Nat) : List Nat := letN (N.set (11 + r) (N.getD (11 + r) 0 + 1)) (N.getD 0 0 &&& ((1 <<< (rsN r + p)) ^^^ 4294967295))
set_option maxRecDepth 100000 in
set_option maxHeartbeats 4000000 in
theorem ev_knockOut (d : Nat) (N : List Nat) (vs : List Value) (g : xH) (r p : Nat) (hN : N.length = 18) (h0 : N.getD 0 0 < 32768) (hr : r < 5) (hp : p < 5 - r) :
    Ev xT (d + 3) N_B_knockOut [.ref 0, .int (nI r), .int (nI p)] (hN1 N vs g) (Rt (some (.int (nI (pop (fallM (N.getD 0 0 &&& ((1 <<< (rsN r + p)) ^^^ 4294967295))))))) (hN1 (knockN N r p) vs g)) NX := by
  refine Ev_intro t_B_knockOut (Nat.le_of_ble_eq_true rfl) ?_
  intro Q X hQ hX K hK
  show K 0 [some (.ref 0), some (.int (nI r)), some (.int (nI p))] [] _ 0 0
  have hq := hQ _ _ ⟨rfl, rfl⟩
  unfold knockN at hq
  refine hK 0 _ _ _ _ _ _ _ _ rfl ?_
  dsimp only [k_B_knockOut_0, hN1, hB, wpI, xop, xcall, xli, xlj, xlf, xld, xla, xlg, xst, xst2, xc1, pI, pJ, pF, pD, pR, pA, p1, p0, xpop, xpush, xsm, xhas, xif, xic, xsw, xai, xal, xhi, xhv, xrf, xret, xrtl, xrtf, xrtd, xrta, xrtv, xfit, xnew, cond_true, cond_false, f40, f41, f42, f43, List.length_cons, List.length_nil, Nat.reduceAdd, Nat.reduceSub, Nat.reduceMul, Nat.reduceBEq, List.map_cons, List.map_nil, List.headD_cons, List.getElem?_cons_zero, List.getElem?_cons_succ, List.set_cons_zero, List.set_cons_succ]
  try simp (disch := first | omega | (simp only [List.length_set]; omega)) only [nI_add, n_and, n_or, n_xor, n_i31, nI_leI, nI_ltI, n_e0, n_eq, n_m1e, n_l0, n_g0, n_p0, n_q0, n_cl, n_in, n_sub, n_shr, n_shl, n_div, bI_0, n_01, n_11, bI_or, not_false_eq_true, forall_const, not_true_eq_false, false_imp_iff, true_imp_iff, List.length_map, List.length_set, hN, nL_u, gs_eq, gs_ne, nI_set, Nat.reduceLT, true_and, and_true, pk_mul]
  refine ⟨by omega, by omega, ?_⟩
  refine Ev_use (ev_bit _ r p _ hr (by omega)) ?_
  dsimp only [hN1, hB, wpI, xop, xcall, xli, xlj, xlf, xld, xla, xlg, xst, xst2, xc1, pI, pJ, pF, pD, pR, pA, p1, p0, xpop, xpush, xsm, xhas, xif, xic, xsw, xai, xal, xhi, xhv, xrf, xret, xrtl, xrtf, xrtd, xrta, xrtv, xfit, xnew, cond_true, cond_false, f40, f41, f42, f43, List.length_cons, List.length_nil, Nat.reduceAdd, Nat.reduceSub, Nat.reduceMul, Nat.reduceBEq, List.map_cons, List.map_nil, List.headD_cons, List.getElem?_cons_zero, List.getElem?_cons_succ, List.set_cons_zero, List.set_cons_succ]
  rw [n_m1]
  try simp (disch := first | omega | (simp only [List.length_set]; omega)) only [nI_add, n_and, n_or, n_xor, n_i31, nI_leI, nI_ltI, n_e0, n_eq, n_m1e, n_l0, n_g0, n_p0, n_q0, n_cl, n_in, n_sub, n_shr, n_shl, n_div, bI_0, n_01, n_11, bI_or, not_false_eq_true, forall_const, not_true_eq_false, false_imp_iff, true_imp_iff, List.length_map, List.length_set, hN, nL_u, gs_eq, gs_ne, nI_set, Nat.reduceLT, true_and, and_true, pk_mul]
  refine Ev_use (ev_letFall _ _ vs g _ (List.length_set.trans hN) (Nat.lt_of_le_of_lt Nat.and_le_left h0)) ?_
  dsimp only [hN1, hB, wpI, xop, xcall, xli, xlj, xlf, xld, xla, xlg, xst, xst2, xc1, pI, pJ, pF, pD, pR, pA, p1, p0, xpop, xpush, xsm, xhas, xif, xic, xsw, xai, xal, xhi, xhv, xrf, xret, xrtl, xrtf, xrtd, xrta, xrtv, xfit, xnew, cond_true, cond_false, f40, f41, f42, f43, List.length_cons, List.length_nil, Nat.reduceAdd, Nat.reduceSub, Nat.reduceMul, Nat.reduceBEq, List.map_cons, List.map_nil, List.headD_cons, List.getElem?_cons_zero, List.getElem?_cons_succ, List.set_cons_zero, List.set_cons_succ]
  exact ⟨Nat.le_refl _, Nat.le_refl _, hq⟩
set_option maxRecDepth 100000 in
set_option maxHeartbeats 4000000 in
theorem ev_addBottle (d : Nat) (N : List Nat) (vs : List Value) (g : xH) (r p : Nat) (hN : N.length = 18) (h0 : N.getD 0 0 < 32768) (hr : r < 5) (hp : p < 5 - r) :
    Ev xT (d + 2) N_B_addBottle [.ref 0, .int (nI r), .int (nI p)] (hN1 N vs g) (Rt (some (.int (nI (pop (N.getD 0 0 ||| 1 <<< (rsN r + p)))))) (hN1 (N.set 0 (N.getD 0 0 ||| 1 <<< (rsN r + p))) vs g)) NX := by
  refine Ev_intro t_B_addBottle (Nat.le_of_ble_eq_true rfl) ?_
  intro Q X hQ hX K hK
  show K 0 [some (.ref 0), some (.int (nI r)), some (.int (nI p))] [] _ 0 0
  have hq := hQ _ _ ⟨rfl, rfl⟩
  have hl : N.getD 0 0 ||| 1 <<< (rsN r + p) < 32768 := Nat.or_lt_two_pow (n := 15) h0 (place_lt hr hp)
  refine hK 0 _ _ _ _ _ _ _ _ rfl ?_
  dsimp only [k_B_addBottle_0, hN1, hB, wpI, xop, xcall, xli, xlj, xlf, xld, xla, xlg, xst, xst2, xc1, pI, pJ, pF, pD, pR, pA, p1, p0, xpop, xpush, xsm, xhas, xif, xic, xsw, xai, xal, xhi, xhv, xrf, xret, xrtl, xrtf, xrtd, xrta, xrtv, xfit, xnew, cond_true, cond_false, f40, f41, f42, f43, List.length_cons, List.length_nil, Nat.reduceAdd, Nat.reduceSub, Nat.reduceMul, Nat.reduceBEq, List.map_cons, List.map_nil, List.headD_cons, List.getElem?_cons_zero, List.getElem?_cons_succ, List.set_cons_zero, List.set_cons_succ]
  try simp (disch := first | omega | (simp only [List.length_set]; omega)) only [nI_add, n_and, n_or, n_xor, n_i31, nI_leI, nI_ltI, n_e0, n_eq, n_m1e, n_l0, n_g0, n_p0, n_q0, n_cl, n_in, n_sub, n_shr, n_shl, n_div, bI_0, n_01, n_11, bI_or, not_false_eq_true, forall_const, not_true_eq_false, false_imp_iff, true_imp_iff, List.length_map, List.length_set, hN, nL_u, gs_eq, gs_ne, nI_set, Nat.reduceLT, true_and, and_true, pk_mul]
  refine Ev_use (ev_bit _ r p _ hr (by omega)) ?_
  dsimp only [hN1, hB, wpI, xop, xcall, xli, xlj, xlf, xld, xla, xlg, xst, xst2, xc1, pI, pJ, pF, pD, pR, pA, p1, p0, xpop, xpush, xsm, xhas, xif, xic, xsw, xai, xal, xhi, xhv, xrf, xret, xrtl, xrtf, xrtd, xrta, xrtv, xfit, xnew, cond_true, cond_false, f40, f41, f42, f43, List.length_cons, List.length_nil, Nat.reduceAdd, Nat.reduceSub, Nat.reduceMul, Nat.reduceBEq, List.map_cons, List.map_nil, List.headD_cons, List.getElem?_cons_zero, List.getElem?_cons_succ, List.set_cons_zero, List.set_cons_succ]
  try simp (disch := first | omega | (simp only [List.length_set]; omega)) only [nI_add, n_and, n_or, n_xor, n_i31, nI_leI, nI_ltI, n_e0, n_eq, n_m1e, n_l0, n_g0, n_p0, n_q0, n_cl, n_in, n_sub, n_shr, n_shl, n_div, bI_0, n_01, n_11, bI_or, not_false_eq_true, forall_const, not_true_eq_false, false_imp_iff, true_imp_iff, List.length_map, List.length_set, hN, nL_u, gs_eq, gs_ne, nI_set, Nat.reduceLT, true_and, and_true, pk_mul]
  refine Ev_use (ev_bitCount _ _ _ hl) ?_
  dsimp only [hN1, hB, wpI, xop, xcall, xli, xlj, xlf, xld, xla, xlg, xst, xst2, xc1, pI, pJ, pF, pD, pR, pA, p1, p0, xpop, xpush, xsm, xhas, xif, xic, xsw, xai, xal, xhi, xhv, xrf, xret, xrtl, xrtf, xrtd, xrta, xrtv, xfit, xnew, cond_true, cond_false, f40, f41, f42, f43, List.length_cons, List.length_nil, Nat.reduceAdd, Nat.reduceSub, Nat.reduceMul, Nat.reduceBEq, List.map_cons, List.map_nil, List.headD_cons, List.getElem?_cons_zero, List.getElem?_cons_succ, List.set_cons_zero, List.set_cons_succ]
  exact ⟨Nat.le_refl _, Nat.le_refl _, hq⟩
def swapN (N : List Nat) : List Nat := (N.set 0 (mirN (N.getD 0 0))).set 1 (1 - N.getD 1 0)
set_option maxRecDepth 100000 in
set_option maxHeartbeats 4000000 in
theorem ev_swapSides (d : Nat) (N : List Nat) (vs : List Value) (g : xH) (ok : stN N) :
    Ev xT (d + 4) N_B_swapSides [.ref 0] (hN1 N vs g) (Rt (some (.int (nI (mirN (N.getD 0 0))))) (hN1 (swapN N) vs g)) NX := by
  refine Ev_intro t_B_swapSides (Nat.le_of_ble_eq_true rfl) ?_
  intro Q X hQ hX K hK
  show K 0 [some (.ref 0)] [] _ 0 0
  have hq := hQ _ _ ⟨rfl, rfl⟩
  obtain ⟨hN, h0, h1, h3, h3', h4, h5⟩ := ok
  unfold swapN at hq
  refine hK 0 _ _ _ _ _ _ _ _ rfl ?_
  dsimp only [k_B_swapSides_0, hN1, hB, wpI, xop, xcall, xli, xlj, xlf, xld, xla, xlg, xst, xst2, xc1, pI, pJ, pF, pD, pR, pA, p1, p0, xpop, xpush, xsm, xhas, xif, xic, xsw, xai, xal, xhi, xhv, xrf, xret, xrtl, xrtf, xrtd, xrta, xrtv, xfit, xnew, cond_true, cond_false, f40, f41, f42, f43, List.length_cons, List.length_nil, Nat.reduceAdd, Nat.reduceSub, Nat.reduceMul, Nat.reduceBEq, List.map_cons, List.map_nil, List.headD_cons, List.getElem?_cons_zero, List.getElem?_cons_succ, List.set_cons_zero, List.set_cons_succ]
  try simp (disch := first | omega | (simp only [List.length_set]; omega)) only [nI_add, n_and, n_or, n_xor, n_i31, nI_leI, nI_ltI, n_e0, n_eq, n_m1e, n_l0, n_g0, n_p0, n_q0, n_cl, n_in, n_sub, n_shr, n_shl, n_div, bI_0, n_01, n_11, bI_or, not_false_eq_true, forall_const, not_true_eq_false, false_imp_iff, true_imp_iff, List.length_map, List.length_set, hN, nL_u, gs_eq, gs_ne, nI_set, Nat.reduceLT, true_and, and_true, pk_mul]
  refine Ev_use (ev_mirrored _ _ _ h0) ?_
  dsimp only [hN1, hB, wpI, xop, xcall, xli, xlj, xlf, xld, xla, xlg, xst, xst2, xc1, pI, pJ, pF, pD, pR, pA, p1, p0, xpop, xpush, xsm, xhas, xif, xic, xsw, xai, xal, xhi, xhv, xrf, xret, xrtl, xrtf, xrtd, xrta, xrtv, xfit, xnew, cond_true, cond_false, f40, f41, f42, f43, List.length_cons, List.length_nil, Nat.reduceAdd, Nat.reduceSub, Nat.reduceMul, Nat.reduceBEq, List.map_cons, List.map_nil, List.headD_cons, List.getElem?_cons_zero, List.getElem?_cons_succ, List.set_cons_zero, List.set_cons_succ]
  try simp (disch := first | omega | (simp only [List.length_set]; omega)) only [nI_add, n_and, n_or, n_xor, n_i31, nI_leI, nI_ltI, n_e0, n_eq, n_m1e, n_l0, n_g0, n_p0, n_q0, n_cl, n_in, n_sub, n_shr, n_shl, n_div, bI_0, n_01, n_11, bI_or, not_false_eq_true, forall_const, not_true_eq_false, false_imp_iff, true_imp_iff, List.length_map, List.length_set, hN, nL_u, gs_eq, gs_ne, nI_set, Nat.reduceLT, true_and, and_true, pk_mul]
  exact ⟨Nat.le_refl _, Nat.le_refl _, hq⟩
theorem pop_full : pop 32767 = 15 := by decide +kernel
def fillN (N : List Nat) : List Nat := (N.set 0 32767).set 1 0
set_option maxRecDepth 100000 in
set_option maxHeartbeats 4000000 in
theorem ev_fillUp (d : Nat) (N : List Nat) (vs : List Value) (g : xH) (ok : stN N) :
    Ev xT (d + 2) N_B_fillUp [.ref 0] (hN1 N vs g) (Rt (some (.int (nI (15 - pop (N.getD 0 0))))) (hN1 (fillN N) vs g)) NX := by
  refine Ev_intro t_B_fillUp (Nat.le_of_ble_eq_true rfl) ?_
  intro Q X hQ hX K hK
  show K 0 [some (.ref 0), none] [] _ 0 0
  have hq := hQ _ _ ⟨rfl, rfl⟩
  obtain ⟨hN, h0, h1, h3, h3', h4, h5⟩ := ok
  have hp := pop_le h0
  unfold fillN at hq
  refine hK 0 _ _ _ _ _ _ _ _ rfl ?_
  dsimp only [k_B_fillUp_0, hN1, hB, wpI, xop, xcall, xli, xlj, xlf, xld, xla, xlg, xst, xst2, xc1, pI, pJ, pF, pD, pR, pA, p1, p0, xpop, xpush, xsm, xhas, xif, xic, xsw, xai, xal, xhi, xhv, xrf, xret, xrtl, xrtf, xrtd, xrta, xrtv, xfit, xnew, cond_true, cond_false, f40, f41, f42, f43, List.length_cons, List.length_nil, Nat.reduceAdd, Nat.reduceSub, Nat.reduceMul, Nat.reduceBEq, List.map_cons, List.map_nil, List.headD_cons, List.getElem?_cons_zero, List.getElem?_cons_succ, List.set_cons_zero, List.set_cons_succ]
  refine Ev_use (ev_bitCount _ 32767 _ (by decide)) ?_
  dsimp only [hN1, hB, wpI, xop, xcall, xli, xlj, xlf, xld, xla, xlg, xst, xst2, xc1, pI, pJ, pF, pD, pR, pA, p1, p0, xpop, xpush, xsm, xhas, xif, xic, xsw, xai, xal, xhi, xhv, xrf, xret, xrtl, xrtf, xrtd, xrta, xrtv, xfit, xnew, cond_true, cond_false, f40, f41, f42, f43, List.length_cons, List.length_nil, Nat.reduceAdd, Nat.reduceSub, Nat.reduceMul, Nat.reduceBEq, List.map_cons, List.map_nil, List.headD_cons, List.getElem?_cons_zero, List.getElem?_cons_succ, List.set_cons_zero, List.set_cons_succ]
  rw [pop_full]
  try simp (disch := first | omega | (simp only [List.length_set]; omega)) only [nI_add, n_and, n_or, n_xor, n_i31, nI_leI, nI_ltI, n_e0, n_eq, n_m1e, n_l0, n_g0, n_p0, n_q0, n_cl, n_in, n_sub, n_shr, n_shl, n_div, bI_0, n_01, n_11, bI_or, not_false_eq_true, forall_const, not_true_eq_false, false_imp_iff, true_imp_iff, List.length_map, List.length_set, hN, nL_u, gs_eq, gs_ne, nI_set, Nat.reduceLT, true_and, and_true, pk_mul]
  refine Ev_use (ev_bitCount _ _ _ h0) ?_
  dsimp only [hN1, hB, wpI, xop, xcall, xli, xlj, xlf, xld, xla, xlg, xst, xst2, xc1, pI, pJ, pF, pD, pR, pA, p1, p0, xpop, xpush, xsm, xhas, xif, xic, xsw, xai, xal, xhi, xhv, xrf, xret, xrtl, xrtf, xrtd, xrta, xrtv, xfit, xnew, cond_true, cond_false, f40, f41, f42, f43, List.length_cons, List.length_nil, Nat.reduceAdd, Nat.reduceSub, Nat.reduceMul, Nat.reduceBEq, List.map_cons, List.map_nil, List.headD_cons, List.getElem?_cons_zero, List.getElem?_cons_succ, List.set_cons_zero, List.set_cons_succ]
  try simp (disch := first | omega | (simp only [List.length_set]; omega)) only [nI_add, n_and, n_or, n_xor, n_i31, nI_leI, nI_ltI, n_e0, n_eq, n_m1e, n_l0, n_g0, n_p0, n_q0, n_cl, n_in, n_sub, n_shr, n_shl, n_div, bI_0, n_01, n_11, bI_or, not_false_eq_true, forall_const, not_true_eq_false, false_imp_iff, true_imp_iff, List.length_map, List.length_set, hN, nL_u, gs_eq, gs_ne, nI_set, Nat.reduceLT, true_and, and_true, pk_mul]
  exact ⟨Nat.le_refl _, Nat.le_refl _, hq⟩
/-! save -/
def cpyN (f g : List Nat) (sp dp n : Nat) : List Nat := g.take dp ++ ((f.drop sp).take n ++ g.drop (dp + n))
theorem xcpy_nI (f g : List Nat) (sp dp n : Nat) : xcpy (f.map nI) (g.map nI) sp dp n = (cpyN f g sp dp n).map nI := by
  unfold xcpy cpyN
  rw [List.map_append, List.map_append, List.map_take, List.map_take, List.map_drop, List.map_drop]
theorem cpyN_len {f g : List Nat} {sp dp n : Nat} (h1 : sp + n ≤ f.length) (h2 : dp + n ≤ g.length) : (cpyN f g sp dp n).length = g.length := by
  unfold cpyN
  rw [List.length_append, List.length_append, List.length_take, List.length_take, List.length_drop, List.length_drop]
  omega
def saveV (N V : List Nat) (sv : Nat) : List Nat := if sv < 6 then cpyN N V 0 (sv * 18) 18 else cpyN N (cpyN V V 18 0 90) 0 90 18
def saveS (sv : Nat) : Nat := if sv < 6 then sv + 1 else 6
set_option maxRecDepth 100000 in
set_option maxHeartbeats 4000000 in
theorem ev_save (d : Nat) (N V S C : List Nat) (P : List Value) (sv tl : Nat) (has : Bool) (g : xH) (hN : N.length = 18) (hV : V.length = 108) (hs : sv ≤ 6) :
    Ev xT (d + 1) N_B_save [.ref 0] (hB N V S C P sv tl has g) (Rt none (hB N (saveV N V sv) S C P (saveS sv) tl has g)) NX := by
  refine Ev_intro t_B_save (Nat.le_of_ble_eq_true rfl) ?_
  intro Q X hQ hX K hK
  show K 0 [some (.ref 0)] [] _ 0 0
  have hq := hQ _ _ ⟨rfl, rfl⟩
  unfold saveV saveS at hq
  have go1 : ∀ (V : List Nat) (sv : Nat), V.length = 108 → sv ≤ 5 → Q none (hB N (cpyN N V 0 (sv * 18) 18) S C P (sv + 1) tl has g) → K 1 [some (.ref 0)] [] (hB N V S C P sv tl has g) 0 0 := by
    intro V sv hV hs hq
    refine hK 1 _ _ _ _ _ _ _ _ rfl ?_
    dsimp only [k_B_save_1, hN1, hB, wpI, xop, xcall, xli, xlj, xlf, xld, xla, xlg, xst, xst2, xc1, pI, pJ, pF, pD, pR, pA, p1, p0, xpop, xpush, xsm, xhas, xif, xic, xsw, xai, xal, xhi, xhv, xrf, xret, xrtl, xrtf, xrtd, xrta, xrtv, xfit, xnew, cond_true, cond_false, f40, f41, f42, f43, List.length_cons, List.length_nil, Nat.reduceAdd, Nat.reduceSub, Nat.reduceMul, Nat.reduceBEq, List.map_cons, List.map_nil, List.headD_cons, List.getElem?_cons_zero, List.getElem?_cons_succ, List.set_cons_zero, List.set_cons_succ]
    try simp (disch := first | omega | (simp only [List.length_set]; omega)) only [nI_add, n_and, n_or, n_xor, n_i31, nI_leI, nI_ltI, n_e0, n_eq, n_m1e, n_l0, n_g0, n_p0, n_q0, n_cl, n_in, n_sub, n_shr, n_shl, n_div, bI_0, n_01, n_11, bI_or, not_false_eq_true, forall_const, not_true_eq_false, false_imp_iff, true_imp_iff, List.length_map, List.length_set, hN, nL_u, gs_eq, gs_ne, nI_set, Nat.reduceLT, true_and, and_true, pk_mul, xcpy_nI, hV, Nat.zero_add]
    exact ⟨by omega, by omega, Nat.le_refl _, Nat.le_refl _, hq⟩
  refine hK 0 _ _ _ _ _ _ _ _ rfl ?_
  dsimp only [k_B_save_0, hN1, hB, wpI, xop, xcall, xli, xlj, xlf, xld, xla, xlg, xst, xst2, xc1, pI, pJ, pF, pD, pR, pA, p1, p0, xpop, xpush, xsm, xhas, xif, xic, xsw, xai, xal, xhi, xhv, xrf, xret, xrtl, xrtf, xrtd, xrta, xrtv, xfit, xnew, cond_true, cond_false, f40, f41, f42, f43, List.length_cons, List.length_nil, Nat.reduceAdd, Nat.reduceSub, Nat.reduceMul, Nat.reduceBEq, List.map_cons, List.map_nil, List.headD_cons, List.getElem?_cons_zero, List.getElem?_cons_succ, List.set_cons_zero, List.set_cons_succ]
  try simp (disch := first | omega | (simp only [List.length_set]; omega)) only [nI_add, n_and, n_or, n_xor, n_i31, nI_leI, nI_ltI, n_e0, n_eq, n_m1e, n_l0, n_g0, n_p0, n_q0, n_cl, n_in, n_sub, n_shr, n_shl, n_div, bI_0, n_01, n_11, bI_or, not_false_eq_true, forall_const, not_true_eq_false, false_imp_iff, true_imp_iff, List.length_map, List.length_set, hN, nL_u, gs_eq, gs_ne, nI_set, Nat.reduceLT, true_and, and_true, pk_mul]
  refine ⟨fun z => ?_, fun z => ?_⟩
  · rw [if_pos z, if_pos z] at hq
    exact go1 V sv hV (by omega) hq
  · rw [if_neg z, if_neg z] at hq
    try simp (disch := first | omega | (simp only [List.length_set]; omega)) only [nI_add, n_and, n_or, n_xor, n_i31, nI_leI, nI_ltI, n_e0, n_eq, n_m1e, n_l0, n_g0, n_p0, n_q0, n_cl, n_in, n_sub, n_shr, n_shl, n_div, bI_0, n_01, n_11, bI_or, not_false_eq_true, forall_const, not_true_eq_false, false_imp_iff, true_imp_iff, List.length_map, List.length_set, hN, nL_u, gs_eq, gs_ne, nI_set, Nat.reduceLT, true_and, and_true, pk_mul, xcpy_nI, hV]
    exact ⟨by omega, by omega, go1 _ 5 ((cpyN_len (by omega) (by omega)).trans hV) (Nat.le_refl _) hq⟩
end
section
/-! ===== the class: looks ===== -/
def isSettingB (x : Int32) : Bool := decide (0 ≤ x) && decide (x ≤ nI 2)
set_option maxRecDepth 100000 in
set_option maxHeartbeats 4000000 in
theorem ev_isSetting (d : Nat) (x : Int32) (h : xH) : Ev xT (d + 1) N_B_isSetting [.int x] h (Rt (some (.int (bI (isSettingB x)))) h) NX := by
  refine Ev_intro t_B_isSetting (Nat.le_of_ble_eq_true rfl) ?_
  intro Q X hQ hX K hK
  show K 0 [some (.int x)] [] _ 0 0
  have hq := hQ _ _ ⟨rfl, rfl⟩
  have f1 : isSettingB x = false → K 1 [some (.int x)] [] h 0 0 := by
    intro e
    rw [e] at hq
    refine hK 1 _ _ _ _ _ _ _ _ rfl ?_
    dsimp only [k_B_isSetting_1, hN1, hB, wpI, xop, xcall, xli, xlj, xlf, xld, xla, xlg, xst, xst2, xc1, pI, pJ, pF, pD, pR, pA, p1, p0, xpop, xpush, xsm, xhas, xif, xic, xsw, xai, xal, xhi, xhv, xrf, xret, xrtl, xrtf, xrtd, xrta, xrtv, xfit, xnew, cond_true, cond_false, f40, f41, f42, f43, List.length_cons, List.length_nil, Nat.reduceAdd, Nat.reduceSub, Nat.reduceMul, Nat.reduceBEq, List.map_cons, List.map_nil, List.headD_cons, List.getElem?_cons_zero, List.getElem?_cons_succ, List.set_cons_zero, List.set_cons_succ]
    refine hK 2 _ _ _ _ _ _ _ _ rfl ?_
    dsimp only [k_B_isSetting_2, hN1, hB, wpI, xop, xcall, xli, xlj, xlf, xld, xla, xlg, xst, xst2, xc1, pI, pJ, pF, pD, pR, pA, p1, p0, xpop, xpush, xsm, xhas, xif, xic, xsw, xai, xal, xhi, xhv, xrf, xret, xrtl, xrtf, xrtd, xrta, xrtv, xfit, xnew, cond_true, cond_false, f40, f41, f42, f43, List.length_cons, List.length_nil, Nat.reduceAdd, Nat.reduceSub, Nat.reduceMul, Nat.reduceBEq, List.map_cons, List.map_nil, List.headD_cons, List.getElem?_cons_zero, List.getElem?_cons_succ, List.set_cons_zero, List.set_cons_succ]
    exact ⟨Or.inl rfl, Nat.le_refl _, Nat.le_refl _, hq⟩
  refine hK 0 _ _ _ _ _ _ _ _ rfl ?_
  dsimp only [k_B_isSetting_0, hN1, hB, wpI, xop, xcall, xli, xlj, xlf, xld, xla, xlg, xst, xst2, xc1, pI, pJ, pF, pD, pR, pA, p1, p0, xpop, xpush, xsm, xhas, xif, xic, xsw, xai, xal, xhi, xhv, xrf, xret, xrtl, xrtf, xrtd, xrta, xrtv, xfit, xnew, cond_true, cond_false, f40, f41, f42, f43, List.length_cons, List.length_nil, Nat.reduceAdd, Nat.reduceSub, Nat.reduceMul, Nat.reduceBEq, List.map_cons, List.map_nil, List.headD_cons, List.getElem?_cons_zero, List.getElem?_cons_succ, List.set_cons_zero, List.set_cons_succ]
  refine ⟨fun z => f1 ?_, fun z => ⟨fun z2 => f1 ?_, fun z2 => ?_⟩⟩
  · unfold isSettingB
    rw [decide_eq_false (Int32.not_le.mpr z)]
    rfl
  · unfold isSettingB
    rw [decide_eq_false (Int32.not_le.mpr z2), Bool.and_false]
  · have e : isSettingB x = true := by
      unfold isSettingB
      rw [decide_eq_true (Int32.not_lt.mp z), decide_eq_true (Int32.not_lt.mp z2)]
      rfl
    rw [e] at hq
    refine hK 2 _ _ _ _ _ _ _ _ rfl ?_
    dsimp only [k_B_isSetting_2, hN1, hB, wpI, xop, xcall, xli, xlj, xlf, xld, xla, xlg, xst, xst2, xc1, pI, pJ, pF, pD, pR, pA, p1, p0, xpop, xpush, xsm, xhas, xif, xic, xsw, xai, xal, xhi, xhv, xrf, xret, xrtl, xrtf, xrtd, xrta, xrtv, xfit, xnew, cond_true, cond_false, f40, f41, f42, f43, List.length_cons, List.length_nil, Nat.reduceAdd, Nat.reduceSub, Nat.reduceMul, Nat.reduceBEq, List.map_cons, List.map_nil, List.headD_cons, List.getElem?_cons_zero, List.getElem?_cons_succ, List.set_cons_zero, List.set_cons_succ]
    exact ⟨Or.inr rfl, Nat.le_refl _, Nat.le_refl _, hq⟩
def isPlaceB (x y : Int32) : Bool := isRowB x && (decide (0 ≤ y) && decide (y < nI 5 - x))
set_option maxRecDepth 100000 in
set_option maxHeartbeats 4000000 in
theorem ev_isPlace (d : Nat) (x y : Int32) (h : xH) : Ev xT (d + 2) N_B_isPlace [.int x, .int y] h (Rt (some (.int (bI (isPlaceB x y)))) h) NX := by
  refine Ev_intro t_B_isPlace (Nat.le_of_ble_eq_true rfl) ?_
  intro Q X hQ hX K hK
  show K 0 [some (.int x), some (.int y)] [] _ 0 0
  have hq := hQ _ _ ⟨rfl, rfl⟩
  have f1 : isPlaceB x y = false → K 1 [some (.int x), some (.int y)] [] h 0 0 := by
    intro e
    rw [e] at hq
    refine hK 1 _ _ _ _ _ _ _ _ rfl ?_
    dsimp only [k_B_isPlace_1, hN1, hB, wpI, xop, xcall, xli, xlj, xlf, xld, xla, xlg, xst, xst2, xc1, pI, pJ, pF, pD, pR, pA, p1, p0, xpop, xpush, xsm, xhas, xif, xic, xsw, xai, xal, xhi, xhv, xrf, xret, xrtl, xrtf, xrtd, xrta, xrtv, xfit, xnew, cond_true, cond_false, f40, f41, f42, f43, List.length_cons, List.length_nil, Nat.reduceAdd, Nat.reduceSub, Nat.reduceMul, Nat.reduceBEq, List.map_cons, List.map_nil, List.headD_cons, List.getElem?_cons_zero, List.getElem?_cons_succ, List.set_cons_zero, List.set_cons_succ]
    refine hK 2 _ _ _ _ _ _ _ _ rfl ?_
    dsimp only [k_B_isPlace_2, hN1, hB, wpI, xop, xcall, xli, xlj, xlf, xld, xla, xlg, xst, xst2, xc1, pI, pJ, pF, pD, pR, pA, p1, p0, xpop, xpush, xsm, xhas, xif, xic, xsw, xai, xal, xhi, xhv, xrf, xret, xrtl, xrtf, xrtd, xrta, xrtv, xfit, xnew, cond_true, cond_false, f40, f41, f42, f43, List.length_cons, List.length_nil, Nat.reduceAdd, Nat.reduceSub, Nat.reduceMul, Nat.reduceBEq, List.map_cons, List.map_nil, List.headD_cons, List.getElem?_cons_zero, List.getElem?_cons_succ, List.set_cons_zero, List.set_cons_succ]
    exact ⟨Or.inl rfl, Nat.le_refl _, Nat.le_refl _, hq⟩
  refine hK 0 _ _ _ _ _ _ _ _ rfl ?_
  dsimp only [k_B_isPlace_0, hN1, hB, wpI, xop, xcall, xli, xlj, xlf, xld, xla, xlg, xst, xst2, xc1, pI, pJ, pF, pD, pR, pA, p1, p0, xpop, xpush, xsm, xhas, xif, xic, xsw, xai, xal, xhi, xhv, xrf, xret, xrtl, xrtf, xrtd, xrta, xrtv, xfit, xnew, cond_true, cond_false, f40, f41, f42, f43, List.length_cons, List.length_nil, Nat.reduceAdd, Nat.reduceSub, Nat.reduceMul, Nat.reduceBEq, List.map_cons, List.map_nil, List.headD_cons, List.getElem?_cons_zero, List.getElem?_cons_succ, List.set_cons_zero, List.set_cons_succ]
  refine Ev_use (ev_isRow _ x h) ?_
  dsimp only [hN1, hB, wpI, xop, xcall, xli, xlj, xlf, xld, xla, xlg, xst, xst2, xc1, pI, pJ, pF, pD, pR, pA, p1, p0, xpop, xpush, xsm, xhas, xif, xic, xsw, xai, xal, xhi, xhv, xrf, xret, xrtl, xrtf, xrtd, xrta, xrtv, xfit, xnew, cond_true, cond_false, f40, f41, f42, f43, List.length_cons, List.length_nil, Nat.reduceAdd, Nat.reduceSub, Nat.reduceMul, Nat.reduceBEq, List.map_cons, List.map_nil, List.headD_cons, List.getElem?_cons_zero, List.getElem?_cons_succ, List.set_cons_zero, List.set_cons_succ]
  rw [bI_0]
  refine ⟨fun z0 => f1 ?_, fun z0 => ⟨fun z => f1 ?_, fun z => ⟨fun z2 => f1 ?_, fun z2 => ?_⟩⟩⟩
  · unfold isPlaceB
    rw [z0]
    rfl
  · unfold isPlaceB
    rw [decide_eq_false (Int32.not_le.mpr z), Bool.false_and, Bool.and_false]
  · unfold isPlaceB
    rw [decide_eq_false (Int32.not_lt.mpr z2), Bool.and_false, Bool.and_false]
  · have e : isPlaceB x y = true := by
      unfold isPlaceB
      rw [b_nf z0, decide_eq_true (Int32.not_lt.mp z), decide_eq_true (Int32.not_le.mp z2)]
      rfl
    rw [e] at hq
    refine hK 2 _ _ _ _ _ _ _ _ rfl ?_
    dsimp only [k_B_isPlace_2, hN1, hB, wpI, xop, xcall, xli, xlj, xlf, xld, xla, xlg, xst, xst2, xc1, pI, pJ, pF, pD, pR, pA, p1, p0, xpop, xpush, xsm, xhas, xif, xic, xsw, xai, xal, xhi, xhv, xrf, xret, xrtl, xrtf, xrtd, xrta, xrtv, xfit, xnew, cond_true, cond_false, f40, f41, f42, f43, List.length_cons, List.length_nil, Nat.reduceAdd, Nat.reduceSub, Nat.reduceMul, Nat.reduceBEq, List.map_cons, List.map_nil, List.headD_cons, List.getElem?_cons_zero, List.getElem?_cons_succ, List.set_cons_zero, List.set_cons_succ]
    exact ⟨Or.inr rfl, Nat.le_refl _, Nat.le_refl _, hq⟩
def lowI (m r : Nat) : Nat → Nat → Int32
  | 0, _ => -1
  | j + 1, p => if hasN m r p then nI p else lowI m r j (p + 1)
set_option maxRecDepth 100000 in
set_option maxHeartbeats 4000000 in
theorem ev_lowestPlace (d : Nat) (N : List Nat) (vs : List Value) (g : xH) (r : Nat) (ok : stN N) (hr : r < 5) : Ev xT (d + 3) N_B_lowestPlace [.ref 0, .int (nI r)] (hN1 N vs g) (Rt (some (.int (lowI (N.getD 0 0) r (5 - r) 0))) (hN1 N vs g)) NX := by
  refine Ev_intro t_B_lowestPlace (Nat.le_of_ble_eq_true rfl) ?_
  intro Q X hQ hX K hK
  show K 0 [some (.ref 0), some (.int (nI r)), none] [] _ 0 0
  have hq := hQ _ _ ⟨rfl, rfl⟩
  obtain ⟨hN, h0, h1, h3, h3', h4, h5⟩ := ok
  have loop : ∀ (j p : Nat), p + j = 5 - r → Q (some (.int (lowI (N.getD 0 0) r j p))) (hN1 N vs g) → K 1 [some (.ref 0), some (.int (nI r)), some (.int (nI p))] [] (hN1 N vs g) 0 0 := by
    intro j
    induction j with
    | zero =>
      intro p hp hq
      refine hK 1 _ _ _ _ _ _ _ _ rfl ?_
      dsimp only [k_B_lowestPlace_1, hN1, hB, wpI, xop, xcall, xli, xlj, xlf, xld, xla, xlg, xst, xst2, xc1, pI, pJ, pF, pD, pR, pA, p1, p0, xpop, xpush, xsm, xhas, xif, xic, xsw, xai, xal, xhi, xhv, xrf, xret, xrtl, xrtf, xrtd, xrta, xrtv, xfit, xnew, cond_true, cond_false, f40, f41, f42, f43, List.length_cons, List.length_nil, Nat.reduceAdd, Nat.reduceSub, Nat.reduceMul, Nat.reduceBEq, List.map_cons, List.map_nil, List.headD_cons, List.getElem?_cons_zero, List.getElem?_cons_succ, List.set_cons_zero, List.set_cons_succ]
      try simp (disch := first | omega | (simp only [List.length_set]; omega)) only [nI_add, n_and, n_or, n_xor, n_i31, nI_leI, nI_ltI, n_e0, n_eq, n_m1e, n_l0, n_g0, n_p0, n_q0, n_cl, n_in, n_sub, n_shr, n_shl, n_div, bI_0, n_01, n_11, bI_or, not_false_eq_true, forall_const, not_true_eq_false, false_imp_iff, true_imp_iff, List.length_map, List.length_set, hN, nL_u, gs_eq, gs_ne, nI_set, Nat.reduceLT, true_and, and_true, pk_mul]
      refine br_t (by omega) ?_
      refine hK 3 _ _ _ _ _ _ _ _ rfl ?_
      dsimp only [k_B_lowestPlace_3, hN1, hB, wpI, xop, xcall, xli, xlj, xlf, xld, xla, xlg, xst, xst2, xc1, pI, pJ, pF, pD, pR, pA, p1, p0, xpop, xpush, xsm, xhas, xif, xic, xsw, xai, xal, xhi, xhv, xrf, xret, xrtl, xrtf, xrtd, xrta, xrtv, xfit, xnew, cond_true, cond_false, f40, f41, f42, f43, List.length_cons, List.length_nil, Nat.reduceAdd, Nat.reduceSub, Nat.reduceMul, Nat.reduceBEq, List.map_cons, List.map_nil, List.headD_cons, List.getElem?_cons_zero, List.getElem?_cons_succ, List.set_cons_zero, List.set_cons_succ]
      exact ⟨Nat.le_refl _, Nat.le_refl _, hq⟩
    | succ j ih =>
      intro p hp hq
      rw [lowI] at hq
      refine hK 1 _ _ _ _ _ _ _ _ rfl ?_
      dsimp only [k_B_lowestPlace_1, hN1, hB, wpI, xop, xcall, xli, xlj, xlf, xld, xla, xlg, xst, xst2, xc1, pI, pJ, pF, pD, pR, pA, p1, p0, xpop, xpush, xsm, xhas, xif, xic, xsw, xai, xal, xhi, xhv, xrf, xret, xrtl, xrtf, xrtd, xrta, xrtv, xfit, xnew, cond_true, cond_false, f40, f41, f42, f43, List.length_cons, List.length_nil, Nat.reduceAdd, Nat.reduceSub, Nat.reduceMul, Nat.reduceBEq, List.map_cons, List.map_nil, List.headD_cons, List.getElem?_cons_zero, List.getElem?_cons_succ, List.set_cons_zero, List.set_cons_succ]
      try simp (disch := first | omega | (simp only [List.length_set]; omega)) only [nI_add, n_and, n_or, n_xor, n_i31, nI_leI, nI_ltI, n_e0, n_eq, n_m1e, n_l0, n_g0, n_p0, n_q0, n_cl, n_in, n_sub, n_shr, n_shl, n_div, bI_0, n_01, n_11, bI_or, not_false_eq_true, forall_const, not_true_eq_false, false_imp_iff, true_imp_iff, List.length_map, List.length_set, hN, nL_u, gs_eq, gs_ne, nI_set, Nat.reduceLT, true_and, and_true, pk_mul]
      refine br_f (by omega) ?_
      refine Ev_use (ev_hasBottle _ _ r p _ h0 hr (by omega)) ?_
      dsimp only [hN1, hB, wpI, xop, xcall, xli, xlj, xlf, xld, xla, xlg, xst, xst2, xc1, pI, pJ, pF, pD, pR, pA, p1, p0, xpop, xpush, xsm, xhas, xif, xic, xsw, xai, xal, xhi, xhv, xrf, xret, xrtl, xrtf, xrtd, xrta, xrtv, xfit, xnew, cond_true, cond_false, f40, f41, f42, f43, List.length_cons, List.length_nil, Nat.reduceAdd, Nat.reduceSub, Nat.reduceMul, Nat.reduceBEq, List.map_cons, List.map_nil, List.headD_cons, List.getElem?_cons_zero, List.getElem?_cons_succ, List.set_cons_zero, List.set_cons_succ]
      rw [bI_0]
      refine ⟨fun z => ?_, fun z => ?_⟩
      · rw [if_neg (by rw [z]; decide)] at hq
        refine hK 2 _ _ _ _ _ _ _ _ rfl ?_
        dsimp only [k_B_lowestPlace_2, hN1, hB, wpI, xop, xcall, xli, xlj, xlf, xld, xla, xlg, xst, xst2, xc1, pI, pJ, pF, pD, pR, pA, p1, p0, xpop, xpush, xsm, xhas, xif, xic, xsw, xai, xal, xhi, xhv, xrf, xret, xrtl, xrtf, xrtd, xrta, xrtv, xfit, xnew, cond_true, cond_false, f40, f41, f42, f43, List.length_cons, List.length_nil, Nat.reduceAdd, Nat.reduceSub, Nat.reduceMul, Nat.reduceBEq, List.map_cons, List.map_nil, List.headD_cons, List.getElem?_cons_zero, List.getElem?_cons_succ, List.set_cons_zero, List.set_cons_succ]
        try simp (disch := first | omega | (simp only [List.length_set]; omega)) only [nI_add, n_and, n_or, n_xor, n_i31, nI_leI, nI_ltI, n_e0, n_eq, n_m1e, n_l0, n_g0, n_p0, n_q0, n_cl, n_in, n_sub, n_shr, n_shl, n_div, bI_0, n_01, n_11, bI_or, not_false_eq_true, forall_const, not_true_eq_false, false_imp_iff, true_imp_iff, List.length_map, List.length_set, hN, nL_u, gs_eq, gs_ne, nI_set, Nat.reduceLT, true_and, and_true, pk_mul]
        exact ih (p + 1) (by omega) hq
      · rw [if_pos (b_nf z)] at hq
        exact ⟨Nat.le_refl _, Nat.le_refl _, hq⟩
  refine hK 0 _ _ _ _ _ _ _ _ rfl ?_
  dsimp only [k_B_lowestPlace_0, hN1, hB, wpI, xop, xcall, xli, xlj, xlf, xld, xla, xlg, xst, xst2, xc1, pI, pJ, pF, pD, pR, pA, p1, p0, xpop, xpush, xsm, xhas, xif, xic, xsw, xai, xal, xhi, xhv, xrf, xret, xrtl, xrtf, xrtd, xrta, xrtv, xfit, xnew, cond_true, cond_false, f40, f41, f42, f43, List.length_cons, List.length_nil, Nat.reduceAdd, Nat.reduceSub, Nat.reduceMul, Nat.reduceBEq, List.map_cons, List.map_nil, List.headD_cons, List.getElem?_cons_zero, List.getElem?_cons_succ, List.set_cons_zero, List.set_cons_succ]
  exact loop (5 - r) 0 (by omega) hq
def highI (m r : Nat) : Nat → Int32
  | 0 => -1
  | k + 1 => if hasN m r k then nI k else highI m r k
theorem rowI_m (k : Nat) : nI k + -1 = rowI k := by
  cases k with
  | zero => rfl
  | succ k => exact pk_m1 k
set_option maxRecDepth 100000 in
set_option maxHeartbeats 4000000 in
theorem ev_highestPlace (d : Nat) (N : List Nat) (vs : List Value) (g : xH) (r : Nat) (ok : stN N) (hr : r < 5) : Ev xT (d + 3) N_B_highestPlace [.ref 0, .int (nI r)] (hN1 N vs g) (Rt (some (.int (highI (N.getD 0 0) r (5 - r)))) (hN1 N vs g)) NX := by
  refine Ev_intro t_B_highestPlace (Nat.le_of_ble_eq_true rfl) ?_
  intro Q X hQ hX K hK
  show K 0 [some (.ref 0), some (.int (nI r)), none] [] _ 0 0
  have hq := hQ _ _ ⟨rfl, rfl⟩
  obtain ⟨hN, h0, h1, h3, h3', h4, h5⟩ := ok
  have loop : ∀ (k : Nat), k ≤ 5 - r → Q (some (.int (highI (N.getD 0 0) r k))) (hN1 N vs g) → K 1 [some (.ref 0), some (.int (nI r)), some (.int (rowI k))] [] (hN1 N vs g) 0 0 := by
    intro k
    induction k with
    | zero =>
      intro hp hq
      refine hK 1 _ _ _ _ _ _ _ _ rfl ?_
      dsimp only [k_B_highestPlace_1, hN1, hB, wpI, xop, xcall, xli, xlj, xlf, xld, xla, xlg, xst, xst2, xc1, pI, pJ, pF, pD, pR, pA, p1, p0, xpop, xpush, xsm, xhas, xif, xic, xsw, xai, xal, xhi, xhv, xrf, xret, xrtl, xrtf, xrtd, xrta, xrtv, xfit, xnew, cond_true, cond_false, f40, f41, f42, f43, List.length_cons, List.length_nil, Nat.reduceAdd, Nat.reduceSub, Nat.reduceMul, Nat.reduceBEq, List.map_cons, List.map_nil, List.headD_cons, List.getElem?_cons_zero, List.getElem?_cons_succ, List.set_cons_zero, List.set_cons_succ]
      refine br_t (by decide) ?_
      refine hK 3 _ _ _ _ _ _ _ _ rfl ?_
      dsimp only [k_B_highestPlace_3, hN1, hB, wpI, xop, xcall, xli, xlj, xlf, xld, xla, xlg, xst, xst2, xc1, pI, pJ, pF, pD, pR, pA, p1, p0, xpop, xpush, xsm, xhas, xif, xic, xsw, xai, xal, xhi, xhv, xrf, xret, xrtl, xrtf, xrtd, xrta, xrtv, xfit, xnew, cond_true, cond_false, f40, f41, f42, f43, List.length_cons, List.length_nil, Nat.reduceAdd, Nat.reduceSub, Nat.reduceMul, Nat.reduceBEq, List.map_cons, List.map_nil, List.headD_cons, List.getElem?_cons_zero, List.getElem?_cons_succ, List.set_cons_zero, List.set_cons_succ]
      exact ⟨Nat.le_refl _, Nat.le_refl _, hq⟩
    | succ k ih =>
      intro hp hq
      rw [highI] at hq
      dsimp only [rowI]
      refine hK 1 _ _ _ _ _ _ _ _ rfl ?_
      dsimp only [k_B_highestPlace_1, hN1, hB, wpI, xop, xcall, xli, xlj, xlf, xld, xla, xlg, xst, xst2, xc1, pI, pJ, pF, pD, pR, pA, p1, p0, xpop, xpush, xsm, xhas, xif, xic, xsw, xai, xal, xhi, xhv, xrf, xret, xrtl, xrtf, xrtd, xrta, xrtv, xfit, xnew, cond_true, cond_false, f40, f41, f42, f43, List.length_cons, List.length_nil, Nat.reduceAdd, Nat.reduceSub, Nat.reduceMul, Nat.reduceBEq, List.map_cons, List.map_nil, List.headD_cons, List.getElem?_cons_zero, List.getElem?_cons_succ, List.set_cons_zero, List.set_cons_succ]
      try simp (disch := first | omega | (simp only [List.length_set]; omega)) only [nI_add, n_and, n_or, n_xor, n_i31, nI_leI, nI_ltI, n_e0, n_eq, n_m1e, n_l0, n_g0, n_p0, n_q0, n_cl, n_in, n_sub, n_shr, n_shl, n_div, bI_0, n_01, n_11, bI_or, not_false_eq_true, forall_const, not_true_eq_false, false_imp_iff, true_imp_iff, List.length_map, List.length_set, hN, nL_u, gs_eq, gs_ne, nI_set, Nat.reduceLT, true_and, and_true, pk_mul]
      refine Ev_use (ev_hasBottle _ _ r k _ h0 hr (by omega)) ?_
      dsimp only [hN1, hB, wpI, xop, xcall, xli, xlj, xlf, xld, xla, xlg, xst, xst2, xc1, pI, pJ, pF, pD, pR, pA, p1, p0, xpop, xpush, xsm, xhas, xif, xic, xsw, xai, xal, xhi, xhv, xrf, xret, xrtl, xrtf, xrtd, xrta, xrtv, xfit, xnew, cond_true, cond_false, f40, f41, f42, f43, List.length_cons, List.length_nil, Nat.reduceAdd, Nat.reduceSub, Nat.reduceMul, Nat.reduceBEq, List.map_cons, List.map_nil, List.headD_cons, List.getElem?_cons_zero, List.getElem?_cons_succ, List.set_cons_zero, List.set_cons_succ]
      rw [bI_0]
      refine ⟨fun z => ?_, fun z => ?_⟩
      · rw [if_neg (by rw [z]; decide)] at hq
        refine hK 2 _ _ _ _ _ _ _ _ rfl ?_
        dsimp only [k_B_highestPlace_2, hN1, hB, wpI, xop, xcall, xli, xlj, xlf, xld, xla, xlg, xst, xst2, xc1, pI, pJ, pF, pD, pR, pA, p1, p0, xpop, xpush, xsm, xhas, xif, xic, xsw, xai, xal, xhi, xhv, xrf, xret, xrtl, xrtf, xrtd, xrta, xrtv, xfit, xnew, cond_true, cond_false, f40, f41, f42, f43, List.length_cons, List.length_nil, Nat.reduceAdd, Nat.reduceSub, Nat.reduceMul, Nat.reduceBEq, List.map_cons, List.map_nil, List.headD_cons, List.getElem?_cons_zero, List.getElem?_cons_succ, List.set_cons_zero, List.set_cons_succ]
        rw [rowI_m]
        exact ih (by omega) hq
      · rw [if_pos (b_nf z)] at hq
        exact ⟨Nat.le_refl _, Nat.le_refl _, hq⟩
  refine hK 0 _ _ _ _ _ _ _ _ rfl ?_
  dsimp only [k_B_highestPlace_0, hN1, hB, wpI, xop, xcall, xli, xlj, xlf, xld, xla, xlg, xst, xst2, xc1, pI, pJ, pF, pD, pR, pA, p1, p0, xpop, xpush, xsm, xhas, xif, xic, xsw, xai, xal, xhi, xhv, xrf, xret, xrtl, xrtf, xrtd, xrta, xrtv, xfit, xnew, cond_true, cond_false, f40, f41, f42, f43, List.length_cons, List.length_nil, Nat.reduceAdd, Nat.reduceSub, Nat.reduceMul, Nat.reduceBEq, List.map_cons, List.map_nil, List.headD_cons, List.getElem?_cons_zero, List.getElem?_cons_succ, List.set_cons_zero, List.set_cons_succ]
  try simp (disch := first | omega | (simp only [List.length_set]; omega)) only [nI_add, n_and, n_or, n_xor, n_i31, nI_leI, nI_ltI, n_e0, n_eq, n_m1e, n_l0, n_g0, n_p0, n_q0, n_cl, n_in, n_sub, n_shr, n_shl, n_div, bI_0, n_01, n_11, bI_or, not_false_eq_true, forall_const, not_true_eq_false, false_imp_iff, true_imp_iff, List.length_map, List.length_set, hN, nL_u, gs_eq, gs_ne, nI_set, Nat.reduceLT, true_and, and_true, pk_mul]
  rw [← rowI_pos (k := 5 - r) (by omega)]
  exact loop (5 - r) (Nat.le_refl _) hq
def grtN (N : List Nat) (r : Nat) : Nat → Nat
  | 0 => 0
  | k + 1 => if rsnN N r (k + 1) = 0 then k + 1 else grtN N r k
theorem rsn_lt (N : List Nat) (r b : Nat) : rsnN N r b < 4 := by
  unfold rsnN
  split
  · decide
  · split
    · split <;> decide
    · decide
set_option maxRecDepth 100000 in
set_option maxHeartbeats 4000000 in
theorem ev_greatestTheft (d : Nat) (N : List Nat) (vs : List Value) (g : xH) (r : Nat) (ok : stN N) (hr : r < 5) : Ev xT (d + 4) N_B_greatestTheft [.ref 0, .int (nI r)] (hN1 N vs g) (Rt (some (.int (nI (grtN N r (N.getD 3 0))))) (hN1 N vs g)) NX := by
  refine Ev_intro t_B_greatestTheft (Nat.le_of_ble_eq_true rfl) ?_
  intro Q X hQ hX K hK
  show K 0 [some (.ref 0), some (.int (nI r)), none] [] _ 0 0
  have hq := hQ _ _ ⟨rfl, rfl⟩
  have ok' := ok
  obtain ⟨hN, h0, h1, h3, h3', h4, h5⟩ := ok
  have loop : ∀ (k : Nat), k < 4 → Q (some (.int (nI (grtN N r k)))) (hN1 N vs g) → K 1 [some (.ref 0), some (.int (nI r)), some (.int (nI k))] [] (hN1 N vs g) 0 0 := by
    intro k
    induction k with
    | zero =>
      intro hp hq
      refine hK 1 _ _ _ _ _ _ _ _ rfl ?_
      dsimp only [k_B_greatestTheft_1, hN1, hB, wpI, xop, xcall, xli, xlj, xlf, xld, xla, xlg, xst, xst2, xc1, pI, pJ, pF, pD, pR, pA, p1, p0, xpop, xpush, xsm, xhas, xif, xic, xsw, xai, xal, xhi, xhv, xrf, xret, xrtl, xrtf, xrtd, xrta, xrtv, xfit, xnew, cond_true, cond_false, f40, f41, f42, f43, List.length_cons, List.length_nil, Nat.reduceAdd, Nat.reduceSub, Nat.reduceMul, Nat.reduceBEq, List.map_cons, List.map_nil, List.headD_cons, List.getElem?_cons_zero, List.getElem?_cons_succ, List.set_cons_zero, List.set_cons_succ]
      refine br_t (by decide) ?_
      refine hK 3 _ _ _ _ _ _ _ _ rfl ?_
      dsimp only [k_B_greatestTheft_3, hN1, hB, wpI, xop, xcall, xli, xlj, xlf, xld, xla, xlg, xst, xst2, xc1, pI, pJ, pF, pD, pR, pA, p1, p0, xpop, xpush, xsm, xhas, xif, xic, xsw, xai, xal, xhi, xhv, xrf, xret, xrtl, xrtf, xrtd, xrta, xrtv, xfit, xnew, cond_true, cond_false, f40, f41, f42, f43, List.length_cons, List.length_nil, Nat.reduceAdd, Nat.reduceSub, Nat.reduceMul, Nat.reduceBEq, List.map_cons, List.map_nil, List.headD_cons, List.getElem?_cons_zero, List.getElem?_cons_succ, List.set_cons_zero, List.set_cons_succ]
      exact ⟨Nat.le_refl _, Nat.le_refl _, hq⟩
    | succ k ih =>
      intro hp hq
      rw [grtN] at hq
      have hz := rsn_lt N r (k + 1)
      refine hK 1 _ _ _ _ _ _ _ _ rfl ?_
      dsimp only [k_B_greatestTheft_1, hN1, hB, wpI, xop, xcall, xli, xlj, xlf, xld, xla, xlg, xst, xst2, xc1, pI, pJ, pF, pD, pR, pA, p1, p0, xpop, xpush, xsm, xhas, xif, xic, xsw, xai, xal, xhi, xhv, xrf, xret, xrtl, xrtf, xrtd, xrta, xrtv, xfit, xnew, cond_true, cond_false, f40, f41, f42, f43, List.length_cons, List.length_nil, Nat.reduceAdd, Nat.reduceSub, Nat.reduceMul, Nat.reduceBEq, List.map_cons, List.map_nil, List.headD_cons, List.getElem?_cons_zero, List.getElem?_cons_succ, List.set_cons_zero, List.set_cons_succ]
      try simp (disch := first | omega | (simp only [List.length_set]; omega)) only [nI_add, n_and, n_or, n_xor, n_i31, nI_leI, nI_ltI, n_e0, n_eq, n_m1e, n_l0, n_g0, n_p0, n_q0, n_cl, n_in, n_sub, n_shr, n_shl, n_div, bI_0, n_01, n_11, bI_or, not_false_eq_true, forall_const, not_true_eq_false, false_imp_iff, true_imp_iff, List.length_map, List.length_set, hN, nL_u, gs_eq, gs_ne, nI_set, Nat.reduceLT, true_and, and_true, pk_mul]
      refine br_f (by omega) ?_
      refine Ev_use (ev_reasonAgainst _ N vs g r (k + 1) ok' hr (by omega)) ?_
      dsimp only [hN1, hB, wpI, xop, xcall, xli, xlj, xlf, xld, xla, xlg, xst, xst2, xc1, pI, pJ, pF, pD, pR, pA, p1, p0, xpop, xpush, xsm, xhas, xif, xic, xsw, xai, xal, xhi, xhv, xrf, xret, xrtl, xrtf, xrtd, xrta, xrtv, xfit, xnew, cond_true, cond_false, f40, f41, f42, f43, List.length_cons, List.length_nil, Nat.reduceAdd, Nat.reduceSub, Nat.reduceMul, Nat.reduceBEq, List.map_cons, List.map_nil, List.headD_cons, List.getElem?_cons_zero, List.getElem?_cons_succ, List.set_cons_zero, List.set_cons_succ]
      try simp (disch := first | omega | (simp only [List.length_set]; omega)) only [nI_add, n_and, n_or, n_xor, n_i31, nI_leI, nI_ltI, n_e0, n_eq, n_m1e, n_l0, n_g0, n_p0, n_q0, n_cl, n_in, n_sub, n_shr, n_shl, n_div, bI_0, n_01, n_11, bI_or, not_false_eq_true, forall_const, not_true_eq_false, false_imp_iff, true_imp_iff, List.length_map, List.length_set, hN, nL_u, gs_eq, gs_ne, nI_set, Nat.reduceLT, true_and, and_true, pk_mul]
      refine ⟨fun z => ?_, fun z => ?_⟩
      · rw [if_neg z] at hq
        refine hK 2 _ _ _ _ _ _ _ _ rfl ?_
        dsimp only [k_B_greatestTheft_2, hN1, hB, wpI, xop, xcall, xli, xlj, xlf, xld, xla, xlg, xst, xst2, xc1, pI, pJ, pF, pD, pR, pA, p1, p0, xpop, xpush, xsm, xhas, xif, xic, xsw, xai, xal, xhi, xhv, xrf, xret, xrtl, xrtf, xrtd, xrta, xrtv, xfit, xnew, cond_true, cond_false, f40, f41, f42, f43, List.length_cons, List.length_nil, Nat.reduceAdd, Nat.reduceSub, Nat.reduceMul, Nat.reduceBEq, List.map_cons, List.map_nil, List.headD_cons, List.getElem?_cons_zero, List.getElem?_cons_succ, List.set_cons_zero, List.set_cons_succ]
        rw [pk_m1]
        exact ih (by omega) hq
      · rw [if_pos z] at hq
        exact ⟨Nat.le_refl _, Nat.le_refl _, hq⟩
  refine hK 0 _ _ _ _ _ _ _ _ rfl ?_
  dsimp only [k_B_greatestTheft_0, hN1, hB, wpI, xop, xcall, xli, xlj, xlf, xld, xla, xlg, xst, xst2, xc1, pI, pJ, pF, pD, pR, pA, p1, p0, xpop, xpush, xsm, xhas, xif, xic, xsw, xai, xal, xhi, xhv, xrf, xret, xrtl, xrtf, xrtd, xrta, xrtv, xfit, xnew, cond_true, cond_false, f40, f41, f42, f43, List.length_cons, List.length_nil, Nat.reduceAdd, Nat.reduceSub, Nat.reduceMul, Nat.reduceBEq, List.map_cons, List.map_nil, List.headD_cons, List.getElem?_cons_zero, List.getElem?_cons_succ, List.set_cons_zero, List.set_cons_succ]
  try simp (disch := first | omega | (simp only [List.length_set]; omega)) only [nI_add, n_and, n_or, n_xor, n_i31, nI_leI, nI_ltI, n_e0, n_eq, n_m1e, n_l0, n_g0, n_p0, n_q0, n_cl, n_in, n_sub, n_shr, n_shl, n_div, bI_0, n_01, n_11, bI_or, not_false_eq_true, forall_const, not_true_eq_false, false_imp_iff, true_imp_iff, List.length_map, List.length_set, hN, nL_u, gs_eq, gs_ne, nI_set, Nat.reduceLT, true_and, and_true, pk_mul]
  exact loop _ h3' hq
def brkS (N : List Nat) : Nat → Nat → Nat → Nat
  | 0, _, s => s
  | j + 1, i, s => brkS N j (i + 1) (s + N.getD (11 + i) 0)
set_option maxRecDepth 100000 in
set_option maxHeartbeats 4000000 in
theorem ev_brokenInAll (d : Nat) (N : List Nat) (vs : List Value) (g : xH) (hN : N.length = 18) : Ev xT (d + 1) N_B_brokenInAll [.ref 0] (hN1 N vs g) (Rt (some (.int (nI (brkS N 5 0 0)))) (hN1 N vs g)) NX := by
  refine Ev_intro t_B_brokenInAll (Nat.le_of_ble_eq_true rfl) ?_
  intro Q X hQ hX K hK
  show K 0 [some (.ref 0), none, none] [] _ 0 0
  have hq := hQ _ _ ⟨rfl, rfl⟩
  have loop : ∀ (j i s : Nat), i + j = 5 → Q (some (.int (nI (brkS N j i s)))) (hN1 N vs g) → K 1 [some (.ref 0), some (.int (nI s)), some (.int (nI i))] [] (hN1 N vs g) 0 0 := by
    intro j
    induction j with
    | zero =>
      intro i s hi hq
      obtain rfl : i = 5 := by omega
      refine hK 1 _ _ _ _ _ _ _ _ rfl ?_
      dsimp only [k_B_brokenInAll_1, hN1, hB, wpI, xop, xcall, xli, xlj, xlf, xld, xla, xlg, xst, xst2, xc1, pI, pJ, pF, pD, pR, pA, p1, p0, xpop, xpush, xsm, xhas, xif, xic, xsw, xai, xal, xhi, xhv, xrf, xret, xrtl, xrtf, xrtd, xrta, xrtv, xfit, xnew, cond_true, cond_false, f40, f41, f42, f43, List.length_cons, List.length_nil, Nat.reduceAdd, Nat.reduceSub, Nat.reduceMul, Nat.reduceBEq, List.map_cons, List.map_nil, List.headD_cons, List.getElem?_cons_zero, List.getElem?_cons_succ, List.set_cons_zero, List.set_cons_succ]
      refine br_t (by decide) ?_
      refine hK 2 _ _ _ _ _ _ _ _ rfl ?_
      dsimp only [k_B_brokenInAll_2, hN1, hB, wpI, xop, xcall, xli, xlj, xlf, xld, xla, xlg, xst, xst2, xc1, pI, pJ, pF, pD, pR, pA, p1, p0, xpop, xpush, xsm, xhas, xif, xic, xsw, xai, xal, xhi, xhv, xrf, xret, xrtl, xrtf, xrtd, xrta, xrtv, xfit, xnew, cond_true, cond_false, f40, f41, f42, f43, List.length_cons, List.length_nil, Nat.reduceAdd, Nat.reduceSub, Nat.reduceMul, Nat.reduceBEq, List.map_cons, List.map_nil, List.headD_cons, List.getElem?_cons_zero, List.getElem?_cons_succ, List.set_cons_zero, List.set_cons_succ]
      exact ⟨Nat.le_refl _, Nat.le_refl _, hq⟩
    | succ j ih =>
      intro i s hi hq
      refine hK 1 _ _ _ _ _ _ _ _ rfl ?_
      dsimp only [k_B_brokenInAll_1, hN1, hB, wpI, xop, xcall, xli, xlj, xlf, xld, xla, xlg, xst, xst2, xc1, pI, pJ, pF, pD, pR, pA, p1, p0, xpop, xpush, xsm, xhas, xif, xic, xsw, xai, xal, xhi, xhv, xrf, xret, xrtl, xrtf, xrtd, xrta, xrtv, xfit, xnew, cond_true, cond_false, f40, f41, f42, f43, List.length_cons, List.length_nil, Nat.reduceAdd, Nat.reduceSub, Nat.reduceMul, Nat.reduceBEq, List.map_cons, List.map_nil, List.headD_cons, List.getElem?_cons_zero, List.getElem?_cons_succ, List.set_cons_zero, List.set_cons_succ]
      try simp (disch := first | omega | (simp only [List.length_set]; omega)) only [nI_add, n_and, n_or, n_xor, n_i31, nI_leI, nI_ltI, n_e0, n_eq, n_m1e, n_l0, n_g0, n_p0, n_q0, n_cl, n_in, n_sub, n_shr, n_shl, n_div, bI_0, n_01, n_11, bI_or, not_false_eq_true, forall_const, not_true_eq_false, false_imp_iff, true_imp_iff, List.length_map, List.length_set, hN, nL_u, gs_eq, gs_ne, nI_set, Nat.reduceLT, true_and, and_true, pk_mul]
      refine br_f (by omega) ⟨by omega, ?_⟩
      exact ih (i + 1) _ (by omega) hq
  refine hK 0 _ _ _ _ _ _ _ _ rfl ?_
  dsimp only [k_B_brokenInAll_0, hN1, hB, wpI, xop, xcall, xli, xlj, xlf, xld, xla, xlg, xst, xst2, xc1, pI, pJ, pF, pD, pR, pA, p1, p0, xpop, xpush, xsm, xhas, xif, xic, xsw, xai, xal, xhi, xhv, xrf, xret, xrtl, xrtf, xrtd, xrta, xrtv, xfit, xnew, cond_true, cond_false, f40, f41, f42, f43, List.length_cons, List.length_nil, Nat.reduceAdd, Nat.reduceSub, Nat.reduceMul, Nat.reduceBEq, List.map_cons, List.map_nil, List.headD_cons, List.getElem?_cons_zero, List.getElem?_cons_succ, List.set_cons_zero, List.set_cons_succ]
  exact loop 5 0 0 rfl hq
def ptB (N : List Nat) (r : Nat) : Nat → Nat → Nat → Nat
  | 0, _, s => s
  | j + 1, b, s => ptB N r j (b + 1) (if rsnN N r b = 0 then s + 1 else s)
def ptR (N : List Nat) : Nat → Nat → Nat → Nat
  | 0, _, s => s
  | j + 1, r, s => ptR N j (r + 1) (ptB N r (N.getD 3 0) 1 s)
theorem ptB_le (N : List Nat) (r : Nat) : ∀ (j b s : Nat), ptB N r j b s ≤ s + j
  | 0, _, _ => Nat.le_refl _
  | j + 1, b, s => by
    have h := ptB_le N r j (b + 1) (if rsnN N r b = 0 then s + 1 else s)
    rw [ptB]
    split at h <;> split <;> omega
theorem ptR_le (N : List Nat) (h3 : N.getD 3 0 < 4) : ∀ (j r s : Nat), ptR N j r s ≤ s + 3 * j
  | 0, _, _ => Nat.le_refl _
  | j + 1, r, s => by
    have h1 := ptB_le N r (N.getD 3 0) 1 s
    have h := ptR_le N h3 j (r + 1) (ptB N r (N.getD 3 0) 1 s)
    rw [ptR]
    omega
set_option maxRecDepth 100000 in
set_option maxHeartbeats 4000000 in
theorem ev_possibleThefts (d : Nat) (N : List Nat) (vs : List Value) (g : xH) (ok : stN N) : Ev xT (d + 4) N_B_possibleThefts [.ref 0] (hN1 N vs g) (Rt (some (.int (nI (ptR N 5 0 0)))) (hN1 N vs g)) NX := by
  refine Ev_intro t_B_possibleThefts (Nat.le_of_ble_eq_true rfl) ?_
  intro Q X hQ hX K hK
  show K 0 [some (.ref 0), none, none, none] [] _ 0 0
  have hq := hQ _ _ ⟨rfl, rfl⟩
  have ok' := ok
  obtain ⟨hN, h0, h1, h3, h3', h4, h5⟩ := ok
  have loop2 : ∀ (j b r s : Nat), b + j = N.getD 3 0 + 1 → r < 5 → (∀ L3, K 4 [some (.ref 0), some (.int (nI (ptB N r j b s))), some (.int (nI r)), L3] [] (hN1 N vs g) 0 0) → K 2 [some (.ref 0), some (.int (nI s)), some (.int (nI r)), some (.int (nI b))] [] (hN1 N vs g) 0 0 := by
    intro j
    induction j with
    | zero =>
      intro b r s hb hr hk
      refine hK 2 _ _ _ _ _ _ _ _ rfl ?_
      dsimp only [k_B_possibleThefts_2, hN1, hB, wpI, xop, xcall, xli, xlj, xlf, xld, xla, xlg, xst, xst2, xc1, pI, pJ, pF, pD, pR, pA, p1, p0, xpop, xpush, xsm, xhas, xif, xic, xsw, xai, xal, xhi, xhv, xrf, xret, xrtl, xrtf, xrtd, xrta, xrtv, xfit, xnew, cond_true, cond_false, f40, f41, f42, f43, List.length_cons, List.length_nil, Nat.reduceAdd, Nat.reduceSub, Nat.reduceMul, Nat.reduceBEq, List.map_cons, List.map_nil, List.headD_cons, List.getElem?_cons_zero, List.getElem?_cons_succ, List.set_cons_zero, List.set_cons_succ]
      try simp (disch := first | omega | (simp only [List.length_set]; omega)) only [nI_add, n_and, n_or, n_xor, n_i31, nI_leI, nI_ltI, n_e0, n_eq, n_m1e, n_l0, n_g0, n_p0, n_q0, n_cl, n_in, n_sub, n_shr, n_shl, n_div, bI_0, n_01, n_11, bI_or, not_false_eq_true, forall_const, not_true_eq_false, false_imp_iff, true_imp_iff, List.length_map, List.length_set, hN, nL_u, gs_eq, gs_ne, nI_set, Nat.reduceLT, true_and, and_true, pk_mul]
      exact br_t (by omega) (hk _)
    | succ j ih =>
      intro b r s hb hr hk
      rw [ptB] at hk
      have hz := rsn_lt N r b
      refine hK 2 _ _ _ _ _ _ _ _ rfl ?_
      dsimp only [k_B_possibleThefts_2, hN1, hB, wpI, xop, xcall, xli, xlj, xlf, xld, xla, xlg, xst, xst2, xc1, pI, pJ, pF, pD, pR, pA, p1, p0, xpop, xpush, xsm, xhas, xif, xic, xsw, xai, xal, xhi, xhv, xrf, xret, xrtl, xrtf, xrtd, xrta, xrtv, xfit, xnew, cond_true, cond_false, f40, f41, f42, f43, List.length_cons, List.length_nil, Nat.reduceAdd, Nat.reduceSub, Nat.reduceMul, Nat.reduceBEq, List.map_cons, List.map_nil, List.headD_cons, List.getElem?_cons_zero, List.getElem?_cons_succ, List.set_cons_zero, List.set_cons_succ]
      try simp (disch := first | omega | (simp only [List.length_set]; omega)) only [nI_add, n_and, n_or, n_xor, n_i31, nI_leI, nI_ltI, n_e0, n_eq, n_m1e, n_l0, n_g0, n_p0, n_q0, n_cl, n_in, n_sub, n_shr, n_shl, n_div, bI_0, n_01, n_11, bI_or, not_false_eq_true, forall_const, not_true_eq_false, false_imp_iff, true_imp_iff, List.length_map, List.length_set, hN, nL_u, gs_eq, gs_ne, nI_set, Nat.reduceLT, true_and, and_true, pk_mul]
      refine br_f (by omega) ?_
      refine Ev_use (ev_reasonAgainst _ N vs g r b ok' hr (by omega)) ?_
      dsimp only [hN1, hB, wpI, xop, xcall, xli, xlj, xlf, xld, xla, xlg, xst, xst2, xc1, pI, pJ, pF, pD, pR, pA, p1, p0, xpop, xpush, xsm, xhas, xif, xic, xsw, xai, xal, xhi, xhv, xrf, xret, xrtl, xrtf, xrtd, xrta, xrtv, xfit, xnew, cond_true, cond_false, f40, f41, f42, f43, List.length_cons, List.length_nil, Nat.reduceAdd, Nat.reduceSub, Nat.reduceMul, Nat.reduceBEq, List.map_cons, List.map_nil, List.headD_cons, List.getElem?_cons_zero, List.getElem?_cons_succ, List.set_cons_zero, List.set_cons_succ]
      try simp (disch := first | omega | (simp only [List.length_set]; omega)) only [nI_add, n_and, n_or, n_xor, n_i31, nI_leI, nI_ltI, n_e0, n_eq, n_m1e, n_l0, n_g0, n_p0, n_q0, n_cl, n_in, n_sub, n_shr, n_shl, n_div, bI_0, n_01, n_11, bI_or, not_false_eq_true, forall_const, not_true_eq_false, false_imp_iff, true_imp_iff, List.length_map, List.length_set, hN, nL_u, gs_eq, gs_ne, nI_set, Nat.reduceLT, true_and, and_true, pk_mul]
      refine ⟨fun z => ?_, fun z => ?_⟩
      · rw [if_neg z] at hk
        refine hK 3 _ _ _ _ _ _ _ _ rfl ?_
        dsimp only [k_B_possibleThefts_3, hN1, hB, wpI, xop, xcall, xli, xlj, xlf, xld, xla, xlg, xst, xst2, xc1, pI, pJ, pF, pD, pR, pA, p1, p0, xpop, xpush, xsm, xhas, xif, xic, xsw, xai, xal, xhi, xhv, xrf, xret, xrtl, xrtf, xrtd, xrta, xrtv, xfit, xnew, cond_true, cond_false, f40, f41, f42, f43, List.length_cons, List.length_nil, Nat.reduceAdd, Nat.reduceSub, Nat.reduceMul, Nat.reduceBEq, List.map_cons, List.map_nil, List.headD_cons, List.getElem?_cons_zero, List.getElem?_cons_succ, List.set_cons_zero, List.set_cons_succ]
        try simp (disch := first | omega | (simp only [List.length_set]; omega)) only [nI_add, n_and, n_or, n_xor, n_i31, nI_leI, nI_ltI, n_e0, n_eq, n_m1e, n_l0, n_g0, n_p0, n_q0, n_cl, n_in, n_sub, n_shr, n_shl, n_div, bI_0, n_01, n_11, bI_or, not_false_eq_true, forall_const, not_true_eq_false, false_imp_iff, true_imp_iff, List.length_map, List.length_set, hN, nL_u, gs_eq, gs_ne, nI_set, Nat.reduceLT, true_and, and_true, pk_mul]
        exact ih (b + 1) r s (by omega) hr hk
      · rw [if_pos z] at hk
        refine hK 3 _ _ _ _ _ _ _ _ rfl ?_
        dsimp only [k_B_possibleThefts_3, hN1, hB, wpI, xop, xcall, xli, xlj, xlf, xld, xla, xlg, xst, xst2, xc1, pI, pJ, pF, pD, pR, pA, p1, p0, xpop, xpush, xsm, xhas, xif, xic, xsw, xai, xal, xhi, xhv, xrf, xret, xrtl, xrtf, xrtd, xrta, xrtv, xfit, xnew, cond_true, cond_false, f40, f41, f42, f43, List.length_cons, List.length_nil, Nat.reduceAdd, Nat.reduceSub, Nat.reduceMul, Nat.reduceBEq, List.map_cons, List.map_nil, List.headD_cons, List.getElem?_cons_zero, List.getElem?_cons_succ, List.set_cons_zero, List.set_cons_succ]
        try simp (disch := first | omega | (simp only [List.length_set]; omega)) only [nI_add, n_and, n_or, n_xor, n_i31, nI_leI, nI_ltI, n_e0, n_eq, n_m1e, n_l0, n_g0, n_p0, n_q0, n_cl, n_in, n_sub, n_shr, n_shl, n_div, bI_0, n_01, n_11, bI_or, not_false_eq_true, forall_const, not_true_eq_false, false_imp_iff, true_imp_iff, List.length_map, List.length_set, hN, nL_u, gs_eq, gs_ne, nI_set, Nat.reduceLT, true_and, and_true, pk_mul]
        exact ih (b + 1) r (s + 1) (by omega) hr hk
  have loop1 : ∀ (j r s : Nat) (L3 : Option Value), r + j = 5 → Q (some (.int (nI (ptR N j r s)))) (hN1 N vs g) → K 1 [some (.ref 0), some (.int (nI s)), some (.int (nI r)), L3] [] (hN1 N vs g) 0 0 := by
    intro j
    induction j with
    | zero =>
      intro r s L3 hr hq
      obtain rfl : r = 5 := by omega
      refine hK 1 _ _ _ _ _ _ _ _ rfl ?_
      dsimp only [k_B_possibleThefts_1, hN1, hB, wpI, xop, xcall, xli, xlj, xlf, xld, xla, xlg, xst, xst2, xc1, pI, pJ, pF, pD, pR, pA, p1, p0, xpop, xpush, xsm, xhas, xif, xic, xsw, xai, xal, xhi, xhv, xrf, xret, xrtl, xrtf, xrtd, xrta, xrtv, xfit, xnew, cond_true, cond_false, f40, f41, f42, f43, List.length_cons, List.length_nil, Nat.reduceAdd, Nat.reduceSub, Nat.reduceMul, Nat.reduceBEq, List.map_cons, List.map_nil, List.headD_cons, List.getElem?_cons_zero, List.getElem?_cons_succ, List.set_cons_zero, List.set_cons_succ]
      refine br_t (by decide) ?_
      refine hK 5 _ _ _ _ _ _ _ _ rfl ?_
      dsimp only [k_B_possibleThefts_5, hN1, hB, wpI, xop, xcall, xli, xlj, xlf, xld, xla, xlg, xst, xst2, xc1, pI, pJ, pF, pD, pR, pA, p1, p0, xpop, xpush, xsm, xhas, xif, xic, xsw, xai, xal, xhi, xhv, xrf, xret, xrtl, xrtf, xrtd, xrta, xrtv, xfit, xnew, cond_true, cond_false, f40, f41, f42, f43, List.length_cons, List.length_nil, Nat.reduceAdd, Nat.reduceSub, Nat.reduceMul, Nat.reduceBEq, List.map_cons, List.map_nil, List.headD_cons, List.getElem?_cons_zero, List.getElem?_cons_succ, List.set_cons_zero, List.set_cons_succ]
      exact ⟨Nat.le_refl _, Nat.le_refl _, hq⟩
    | succ j ih =>
      intro r s L3 hr hq
      rw [ptR] at hq
      refine hK 1 _ _ _ _ _ _ _ _ rfl ?_
      dsimp only [k_B_possibleThefts_1, hN1, hB, wpI, xop, xcall, xli, xlj, xlf, xld, xla, xlg, xst, xst2, xc1, pI, pJ, pF, pD, pR, pA, p1, p0, xpop, xpush, xsm, xhas, xif, xic, xsw, xai, xal, xhi, xhv, xrf, xret, xrtl, xrtf, xrtd, xrta, xrtv, xfit, xnew, cond_true, cond_false, f40, f41, f42, f43, List.length_cons, List.length_nil, Nat.reduceAdd, Nat.reduceSub, Nat.reduceMul, Nat.reduceBEq, List.map_cons, List.map_nil, List.headD_cons, List.getElem?_cons_zero, List.getElem?_cons_succ, List.set_cons_zero, List.set_cons_succ]
      try simp (disch := first | omega | (simp only [List.length_set]; omega)) only [nI_add, n_and, n_or, n_xor, n_i31, nI_leI, nI_ltI, n_e0, n_eq, n_m1e, n_l0, n_g0, n_p0, n_q0, n_cl, n_in, n_sub, n_shr, n_shl, n_div, bI_0, n_01, n_11, bI_or, not_false_eq_true, forall_const, not_true_eq_false, false_imp_iff, true_imp_iff, List.length_map, List.length_set, hN, nL_u, gs_eq, gs_ne, nI_set, Nat.reduceLT, true_and, and_true, pk_mul]
      refine br_f (by omega) ?_
      refine loop2 (N.getD 3 0) 1 r s (by omega) (by omega) fun L3 => ?_
      refine hK 4 _ _ _ _ _ _ _ _ rfl ?_
      dsimp only [k_B_possibleThefts_4, hN1, hB, wpI, xop, xcall, xli, xlj, xlf, xld, xla, xlg, xst, xst2, xc1, pI, pJ, pF, pD, pR, pA, p1, p0, xpop, xpush, xsm, xhas, xif, xic, xsw, xai, xal, xhi, xhv, xrf, xret, xrtl, xrtf, xrtd, xrta, xrtv, xfit, xnew, cond_true, cond_false, f40, f41, f42, f43, List.length_cons, List.length_nil, Nat.reduceAdd, Nat.reduceSub, Nat.reduceMul, Nat.reduceBEq, List.map_cons, List.map_nil, List.headD_cons, List.getElem?_cons_zero, List.getElem?_cons_succ, List.set_cons_zero, List.set_cons_succ]
      try simp (disch := first | omega | (simp only [List.length_set]; omega)) only [nI_add, n_and, n_or, n_xor, n_i31, nI_leI, nI_ltI, n_e0, n_eq, n_m1e, n_l0, n_g0, n_p0, n_q0, n_cl, n_in, n_sub, n_shr, n_shl, n_div, bI_0, n_01, n_11, bI_or, not_false_eq_true, forall_const, not_true_eq_false, false_imp_iff, true_imp_iff, List.length_map, List.length_set, hN, nL_u, gs_eq, gs_ne, nI_set, Nat.reduceLT, true_and, and_true, pk_mul]
      exact ih (r + 1) _ _ (by omega) hq
  refine hK 0 _ _ _ _ _ _ _ _ rfl ?_
  dsimp only [k_B_possibleThefts_0, hN1, hB, wpI, xop, xcall, xli, xlj, xlf, xld, xla, xlg, xst, xst2, xc1, pI, pJ, pF, pD, pR, pA, p1, p0, xpop, xpush, xsm, xhas, xif, xic, xsw, xai, xal, xhi, xhv, xrf, xret, xrtl, xrtf, xrtd, xrta, xrtv, xfit, xnew, cond_true, cond_false, f40, f41, f42, f43, List.length_cons, List.length_nil, Nat.reduceAdd, Nat.reduceSub, Nat.reduceMul, Nat.reduceBEq, List.map_cons, List.map_nil, List.headD_cons, List.getElem?_cons_zero, List.getElem?_cons_succ, List.set_cons_zero, List.set_cons_succ]
  exact loop1 5 0 0 _ rfl hq
def winI (N : List Nat) : Int32 := if 0 < ptR N 5 0 0 then -1 else if N.getD 5 0 = 1 then nI (N.getD 1 0) else nI (1 - N.getD 1 0)
set_option maxRecDepth 100000 in
set_option maxHeartbeats 4000000 in
theorem ev_winner (d : Nat) (N : List Nat) (vs : List Value) (g : xH) (ok : stN N) : Ev xT (d + 5) N_B_winner [.ref 0] (hN1 N vs g) (Rt (some (.int (winI N))) (hN1 N vs g)) NX := by
  refine Ev_intro t_B_winner (Nat.le_of_ble_eq_true rfl) ?_
  intro Q X hQ hX K hK
  show K 0 [some (.ref 0)] [] _ 0 0
  have hq := hQ _ _ ⟨rfl, rfl⟩
  have ok' := ok
  obtain ⟨hN, h0, h1, h3, h3', h4, h5⟩ := ok
  have hp := ptR_le N h3' 5 0 0
  unfold winI at hq
  refine hK 0 _ _ _ _ _ _ _ _ rfl ?_
  dsimp only [k_B_winner_0, hN1, hB, wpI, xop, xcall, xli, xlj, xlf, xld, xla, xlg, xst, xst2, xc1, pI, pJ, pF, pD, pR, pA, p1, p0, xpop, xpush, xsm, xhas, xif, xic, xsw, xai, xal, xhi, xhv, xrf, xret, xrtl, xrtf, xrtd, xrta, xrtv, xfit, xnew, cond_true, cond_false, f40, f41, f42, f43, List.length_cons, List.length_nil, Nat.reduceAdd, Nat.reduceSub, Nat.reduceMul, Nat.reduceBEq, List.map_cons, List.map_nil, List.headD_cons, List.getElem?_cons_zero, List.getElem?_cons_succ, List.set_cons_zero, List.set_cons_succ]
  refine Ev_use (ev_possibleThefts _ N vs g ok') ?_
  dsimp only [hN1, hB, wpI, xop, xcall, xli, xlj, xlf, xld, xla, xlg, xst, xst2, xc1, pI, pJ, pF, pD, pR, pA, p1, p0, xpop, xpush, xsm, xhas, xif, xic, xsw, xai, xal, xhi, xhv, xrf, xret, xrtl, xrtf, xrtd, xrta, xrtv, xfit, xnew, cond_true, cond_false, f40, f41, f42, f43, List.length_cons, List.length_nil, Nat.reduceAdd, Nat.reduceSub, Nat.reduceMul, Nat.reduceBEq, List.map_cons, List.map_nil, List.headD_cons, List.getElem?_cons_zero, List.getElem?_cons_succ, List.set_cons_zero, List.set_cons_succ]
  try simp (disch := first | omega | (simp only [List.length_set]; omega)) only [nI_add, n_and, n_or, n_xor, n_i31, nI_leI, nI_ltI, n_e0, n_eq, n_m1e, n_l0, n_g0, n_p0, n_q0, n_cl, n_in, n_sub, n_shr, n_shl, n_div, bI_0, n_01, n_11, bI_or, not_false_eq_true, forall_const, not_true_eq_false, false_imp_iff, true_imp_iff, List.length_map, List.length_set, hN, nL_u, gs_eq, gs_ne, nI_set, Nat.reduceLT, true_and, and_true, pk_mul]
  refine ⟨fun z => ?_, fun z => ?_⟩
  · rw [if_neg (by omega)] at hq
    refine hK 1 _ _ _ _ _ _ _ _ rfl ?_
    dsimp only [k_B_winner_1, hN1, hB, wpI, xop, xcall, xli, xlj, xlf, xld, xla, xlg, xst, xst2, xc1, pI, pJ, pF, pD, pR, pA, p1, p0, xpop, xpush, xsm, xhas, xif, xic, xsw, xai, xal, xhi, xhv, xrf, xret, xrtl, xrtf, xrtd, xrta, xrtv, xfit, xnew, cond_true, cond_false, f40, f41, f42, f43, List.length_cons, List.length_nil, Nat.reduceAdd, Nat.reduceSub, Nat.reduceMul, Nat.reduceBEq, List.map_cons, List.map_nil, List.headD_cons, List.getElem?_cons_zero, List.getElem?_cons_succ, List.set_cons_zero, List.set_cons_succ]
    try simp (disch := first | omega | (simp only [List.length_set]; omega)) only [nI_add, n_and, n_or, n_xor, n_i31, nI_leI, nI_ltI, n_e0, n_eq, n_m1e, n_l0, n_g0, n_p0, n_q0, n_cl, n_in, n_sub, n_shr, n_shl, n_div, bI_0, n_01, n_11, bI_or, not_false_eq_true, forall_const, not_true_eq_false, false_imp_iff, true_imp_iff, List.length_map, List.length_set, hN, nL_u, gs_eq, gs_ne, nI_set, Nat.reduceLT, true_and, and_true, pk_mul]
    refine ⟨fun z => ?_, fun z => ?_⟩
    · rw [if_neg z] at hq
      refine hK 2 _ _ _ _ _ _ _ _ rfl ?_
      dsimp only [k_B_winner_2, hN1, hB, wpI, xop, xcall, xli, xlj, xlf, xld, xla, xlg, xst, xst2, xc1, pI, pJ, pF, pD, pR, pA, p1, p0, xpop, xpush, xsm, xhas, xif, xic, xsw, xai, xal, xhi, xhv, xrf, xret, xrtl, xrtf, xrtd, xrta, xrtv, xfit, xnew, cond_true, cond_false, f40, f41, f42, f43, List.length_cons, List.length_nil, Nat.reduceAdd, Nat.reduceSub, Nat.reduceMul, Nat.reduceBEq, List.map_cons, List.map_nil, List.headD_cons, List.getElem?_cons_zero, List.getElem?_cons_succ, List.set_cons_zero, List.set_cons_succ]
      try simp (disch := first | omega | (simp only [List.length_set]; omega)) only [nI_add, n_and, n_or, n_xor, n_i31, nI_leI, nI_ltI, n_e0, n_eq, n_m1e, n_l0, n_g0, n_p0, n_q0, n_cl, n_in, n_sub, n_shr, n_shl, n_div, bI_0, n_01, n_11, bI_or, not_false_eq_true, forall_const, not_true_eq_false, false_imp_iff, true_imp_iff, List.length_map, List.length_set, hN, nL_u, gs_eq, gs_ne, nI_set, Nat.reduceLT, true_and, and_true, pk_mul]
      refine hK 3 _ _ _ _ _ _ _ _ rfl ?_
      dsimp only [k_B_winner_3, hN1, hB, wpI, xop, xcall, xli, xlj, xlf, xld, xla, xlg, xst, xst2, xc1, pI, pJ, pF, pD, pR, pA, p1, p0, xpop, xpush, xsm, xhas, xif, xic, xsw, xai, xal, xhi, xhv, xrf, xret, xrtl, xrtf, xrtd, xrta, xrtv, xfit, xnew, cond_true, cond_false, f40, f41, f42, f43, List.length_cons, List.length_nil, Nat.reduceAdd, Nat.reduceSub, Nat.reduceMul, Nat.reduceBEq, List.map_cons, List.map_nil, List.headD_cons, List.getElem?_cons_zero, List.getElem?_cons_succ, List.set_cons_zero, List.set_cons_succ]
      exact ⟨Nat.le_refl _, Nat.le_refl _, hq⟩
    · rw [if_pos z] at hq
      refine hK 3 _ _ _ _ _ _ _ _ rfl ?_
      dsimp only [k_B_winner_3, hN1, hB, wpI, xop, xcall, xli, xlj, xlf, xld, xla, xlg, xst, xst2, xc1, pI, pJ, pF, pD, pR, pA, p1, p0, xpop, xpush, xsm, xhas, xif, xic, xsw, xai, xal, xhi, xhv, xrf, xret, xrtl, xrtf, xrtd, xrta, xrtv, xfit, xnew, cond_true, cond_false, f40, f41, f42, f43, List.length_cons, List.length_nil, Nat.reduceAdd, Nat.reduceSub, Nat.reduceMul, Nat.reduceBEq, List.map_cons, List.map_nil, List.headD_cons, List.getElem?_cons_zero, List.getElem?_cons_succ, List.set_cons_zero, List.set_cons_succ]
      exact ⟨Nat.le_refl _, Nat.le_refl _, hq⟩
  · rw [if_pos (by omega)] at hq
    exact ⟨Nat.le_refl _, Nat.le_refl _, hq⟩
end
section
/-! ===== the class: the calls that change something ===== -/
/-- an answer, if nothing is thrown; else what is thrown, and nothing has changed -/
def Ro (e : Nat) (r : Option Value) (h' : xH) : Option Value → xH → Prop := fun v g => e = 0 ∧ v = r ∧ g = h'
def Xo (e : Nat) (h : xH) : Nat → xH → Prop := fun k g => e ≠ 0 ∧ k = e ∧ g = h
theorem row_of {x : Int32} (h : isRowB x = true) : ∃ r, r < 5 ∧ x = nI r := by
  unfold isRowB at h
  rw [Bool.and_eq_true, decide_eq_true_eq, decide_eq_true_eq] at h
  obtain ⟨r, hr, rfl⟩ := nI_of (Int32.not_lt.mpr h.1)
  exact ⟨r, (nI_ltI hr (by omega)).mp h.2, rfl⟩
theorem place_of {x y : Int32} (h : isPlaceB x y = true) : ∃ r p, r < 5 ∧ p < 5 - r ∧ x = nI r ∧ y = nI p := by
  unfold isPlaceB at h
  rw [Bool.and_eq_true, Bool.and_eq_true, decide_eq_true_eq, decide_eq_true_eq] at h
  obtain ⟨r, hr, rfl⟩ := row_of h.1
  obtain ⟨p, hp, rfl⟩ := nI_of (Int32.not_lt.mpr h.2.1)
  have h2 := h.2.2
  rw [n_sub (by omega), nI_ltI hp (by omega)] at h2
  exact ⟨r, p, hr, h2, rfl, rfl⟩
theorem set_of {x : Int32} (h : isSettingB x = true) : ∃ r, r < 3 ∧ x = nI r := by
  unfold isSettingB at h
  rw [Bool.and_eq_true, decide_eq_true_eq, decide_eq_true_eq] at h
  obtain ⟨r, hr, rfl⟩ := nI_of (Int32.not_lt.mpr h.1)
  exact ⟨r, Nat.lt_succ_of_le ((nI_leI hr (by omega)).mp h.2), rfl⟩
theorem rsn_z {N : List Nat} {r b : Nat} (h : rsnN N r b = 0) : (robN (N.getD 0 0) (N.getD 1 0) r b).2 = 0 := by
  unfold rsnN at h
  by_cases z : N.getD 3 0 < b
  · rw [if_pos z] at h; exact absurd h (by decide)
  · rw [if_neg z] at h
    by_cases z2 : (robN (N.getD 0 0) (N.getD 1 0) r b).2 = 0
    · exact z2
    · rw [if_neg z2] at h; exact absurd h (by decide)
def takeE (N : List Nat) (x y : Int32) : Nat := if isRowB x = false then 10 else if y < nI 1 ∨ nI (N.getD 3 0) < y then 11 else if rsnN N x.toNatClampNeg y.toNatClampNeg = 0 then 0 else 12
set_option maxRecDepth 100000 in
set_option maxHeartbeats 4000000 in
theorem ev_take (d : Nat) (N V S C : List Nat) (P : List Value) (sv tl : Nat) (has : Bool) (g : xH) (x y : Int32) (ok : stN N) (hV : V.length = 108) (hs : sv ≤ 6) :
    Ev xT (d + 4) N_B_take [.ref 0, .int x, .int y] (hB N V S C P sv tl has g)
      (Ro (takeE N x y) (some (.int (nI (pop (fallM (robN (N.getD 0 0) (N.getD 1 0) x.toNatClampNeg y.toNatClampNeg).1))))) (hB (stealN N x.toNatClampNeg y.toNatClampNeg) (saveV N V sv) S C P (saveS sv) tl has g))
      (Xo (takeE N x y) (hB N V S C P sv tl has g)) := by
  refine Ev_intro t_B_take (Nat.le_of_ble_eq_true rfl) ?_
  intro Q X hQ hX K hK
  show K 0 [some (.ref 0), some (.int x), some (.int y)] [] _ 0 0
  have ok' := ok
  obtain ⟨hN, h0, h1, h3, h3', h4, h5⟩ := ok
  refine hK 0 _ _ _ _ _ _ _ _ rfl ?_
  dsimp only [k_B_take_0, hN1, hB, wpI, xop, xcall, xli, xlj, xlf, xld, xla, xlg, xst, xst2, xc1, pI, pJ, pF, pD, pR, pA, p1, p0, xpop, xpush, xsm, xhas, xif, xic, xsw, xai, xal, xhi, xhv, xrf, xret, xrtl, xrtf, xrtd, xrta, xrtv, xfit, xnew, cond_true, cond_false, f40, f41, f42, f43, List.length_cons, List.length_nil, Nat.reduceAdd, Nat.reduceSub, Nat.reduceMul, Nat.reduceBEq, List.map_cons, List.map_nil, List.headD_cons, List.getElem?_cons_zero, List.getElem?_cons_succ, List.set_cons_zero, List.set_cons_succ]
  refine Ev_use (ev_isRow _ x _) ?_
  dsimp only [hN1, hB, wpI, xop, xcall, xli, xlj, xlf, xld, xla, xlg, xst, xst2, xc1, pI, pJ, pF, pD, pR, pA, p1, p0, xpop, xpush, xsm, xhas, xif, xic, xsw, xai, xal, xhi, xhv, xrf, xret, xrtl, xrtf, xrtd, xrta, xrtv, xfit, xnew, cond_true, cond_false, f40, f41, f42, f43, List.length_cons, List.length_nil, Nat.reduceAdd, Nat.reduceSub, Nat.reduceMul, Nat.reduceBEq, List.map_cons, List.map_nil, List.headD_cons, List.getElem?_cons_zero, List.getElem?_cons_succ, List.set_cons_zero, List.set_cons_succ]
  rw [bI_0]
  refine ⟨fun z => ?_, fun z => ?_⟩
  · obtain ⟨r, hr, rfl⟩ := row_of (b_nf z)
    have f2 : y < nI 1 ∨ nI (N.getD 3 0) < y → K 2 [some (.ref 0), some (.int (nI r)), some (.int y)] [] (hB N V S C P sv tl has g) 0 0 := by
      intro z2
      have e : takeE N (nI r) y = 11 := by unfold takeE; rw [if_neg z, if_pos z2]
      refine hK 2 _ _ _ _ _ _ _ _ rfl ?_
      dsimp only [k_B_take_2, hN1, hB, wpI, xop, xcall, xli, xlj, xlf, xld, xla, xlg, xst, xst2, xc1, pI, pJ, pF, pD, pR, pA, p1, p0, xpop, xpush, xsm, xhas, xif, xic, xsw, xai, xal, xhi, xhv, xrf, xret, xrtl, xrtf, xrtd, xrta, xrtv, xfit, xnew, cond_true, cond_false, f40, f41, f42, f43, List.length_cons, List.length_nil, Nat.reduceAdd, Nat.reduceSub, Nat.reduceMul, Nat.reduceBEq, List.map_cons, List.map_nil, List.headD_cons, List.getElem?_cons_zero, List.getElem?_cons_succ, List.set_cons_zero, List.set_cons_succ]
      exact ⟨Nat.le_refl _, Nat.le_refl _, hX _ _ ⟨by rw [e]; decide, e.symm, rfl⟩⟩
    refine hK 1 _ _ _ _ _ _ _ _ rfl ?_
    dsimp only [k_B_take_1, hN1, hB, wpI, xop, xcall, xli, xlj, xlf, xld, xla, xlg, xst, xst2, xc1, pI, pJ, pF, pD, pR, pA, p1, p0, xpop, xpush, xsm, xhas, xif, xic, xsw, xai, xal, xhi, xhv, xrf, xret, xrtl, xrtf, xrtd, xrta, xrtv, xfit, xnew, cond_true, cond_false, f40, f41, f42, f43, List.length_cons, List.length_nil, Nat.reduceAdd, Nat.reduceSub, Nat.reduceMul, Nat.reduceBEq, List.map_cons, List.map_nil, List.headD_cons, List.getElem?_cons_zero, List.getElem?_cons_succ, List.set_cons_zero, List.set_cons_succ]
    refine ⟨fun z2 => f2 (Or.inl z2), fun z2 => ?_⟩
    try simp (disch := first | omega | (simp only [List.length_set]; omega)) only [nI_add, n_and, n_or, n_xor, n_i31, nI_leI, nI_ltI, n_e0, n_eq, n_m1e, n_l0, n_g0, n_p0, n_q0, n_cl, n_in, n_sub, n_shr, n_shl, n_div, bI_0, n_01, n_11, bI_or, not_false_eq_true, forall_const, not_true_eq_false, false_imp_iff, true_imp_iff, List.length_map, List.length_set, hN, nL_u, gs_eq, gs_ne, nI_set, Nat.reduceLT, true_and, and_true, pk_mul]
    refine ⟨fun z3 => ?_, fun z3 => f2 (Or.inr (Int32.not_le.mp z3))⟩
    have y0 : ¬ y < 0 := fun q => z2 (Int32.lt_trans q (by decide))
    obtain ⟨b, hb, rfl⟩ := nI_of y0
    rw [nI_leI hb (by omega)] at z3
    rw [nI_ltI hb (by omega)] at z2
    have z4 : ¬ (nI b < nI 1 ∨ nI (N.getD 3 0) < nI b) := by
      rw [nI_ltI hb (by omega), nI_ltI (by omega) hb]
      omega
    have hz := rsn_lt N r b
    refine hK 3 _ _ _ _ _ _ _ _ rfl ?_
    dsimp only [k_B_take_3, hN1, hB, wpI, xop, xcall, xli, xlj, xlf, xld, xla, xlg, xst, xst2, xc1, pI, pJ, pF, pD, pR, pA, p1, p0, xpop, xpush, xsm, xhas, xif, xic, xsw, xai, xal, xhi, xhv, xrf, xret, xrtl, xrtf, xrtd, xrta, xrtv, xfit, xnew, cond_true, cond_false, f40, f41, f42, f43, List.length_cons, List.length_nil, Nat.reduceAdd, Nat.reduceSub, Nat.reduceMul, Nat.reduceBEq, List.map_cons, List.map_nil, List.headD_cons, List.getElem?_cons_zero, List.getElem?_cons_succ, List.set_cons_zero, List.set_cons_succ]
    refine Ev_use (ev_reasonAgainst _ N _ _ r b ok' hr (by omega)) ?_
    dsimp only [hN1, hB, wpI, xop, xcall, xli, xlj, xlf, xld, xla, xlg, xst, xst2, xc1, pI, pJ, pF, pD, pR, pA, p1, p0, xpop, xpush, xsm, xhas, xif, xic, xsw, xai, xal, xhi, xhv, xrf, xret, xrtl, xrtf, xrtd, xrta, xrtv, xfit, xnew, cond_true, cond_false, f40, f41, f42, f43, List.length_cons, List.length_nil, Nat.reduceAdd, Nat.reduceSub, Nat.reduceMul, Nat.reduceBEq, List.map_cons, List.map_nil, List.headD_cons, List.getElem?_cons_zero, List.getElem?_cons_succ, List.set_cons_zero, List.set_cons_succ]
    try simp (disch := first | omega | (simp only [List.length_set]; omega)) only [nI_add, n_and, n_or, n_xor, n_i31, nI_leI, nI_ltI, n_e0, n_eq, n_m1e, n_l0, n_g0, n_p0, n_q0, n_cl, n_in, n_sub, n_shr, n_shl, n_div, bI_0, n_01, n_11, bI_or, not_false_eq_true, forall_const, not_true_eq_false, false_imp_iff, true_imp_iff, List.length_map, List.length_set, hN, nL_u, gs_eq, gs_ne, nI_set, Nat.reduceLT, true_and, and_true, pk_mul]
    refine ⟨fun z5 => ?_, fun z5 => ?_⟩
    · have hq := hQ _ _ ⟨by unfold takeE; rw [if_neg z, if_neg z4, n_cl (by omega), n_cl (by omega), if_pos z5], rfl, rfl⟩
      rw [n_cl (by omega), n_cl (by omega)] at hq
      refine hK 4 _ _ _ _ _ _ _ _ rfl ?_
      dsimp only [k_B_take_4, hN1, hB, wpI, xop, xcall, xli, xlj, xlf, xld, xla, xlg, xst, xst2, xc1, pI, pJ, pF, pD, pR, pA, p1, p0, xpop, xpush, xsm, xhas, xif, xic, xsw, xai, xal, xhi, xhv, xrf, xret, xrtl, xrtf, xrtd, xrta, xrtv, xfit, xnew, cond_true, cond_false, f40, f41, f42, f43, List.length_cons, List.length_nil, Nat.reduceAdd, Nat.reduceSub, Nat.reduceMul, Nat.reduceBEq, List.map_cons, List.map_nil, List.headD_cons, List.getElem?_cons_zero, List.getElem?_cons_succ, List.set_cons_zero, List.set_cons_succ]
      refine Ev_use (ev_save _ N V S C P sv tl has g hN hV hs) ?_
      dsimp only [hN1, hB, wpI, xop, xcall, xli, xlj, xlf, xld, xla, xlg, xst, xst2, xc1, pI, pJ, pF, pD, pR, pA, p1, p0, xpop, xpush, xsm, xhas, xif, xic, xsw, xai, xal, xhi, xhv, xrf, xret, xrtl, xrtf, xrtd, xrta, xrtv, xfit, xnew, cond_true, cond_false, f40, f41, f42, f43, List.length_cons, List.length_nil, Nat.reduceAdd, Nat.reduceSub, Nat.reduceMul, Nat.reduceBEq, List.map_cons, List.map_nil, List.headD_cons, List.getElem?_cons_zero, List.getElem?_cons_succ, List.set_cons_zero, List.set_cons_succ]
      refine Ev_use (ev_steal _ N _ _ r b ok' hr (by omega) (rsn_z z5)) ?_
      dsimp only [hN1, hB, wpI, xop, xcall, xli, xlj, xlf, xld, xla, xlg, xst, xst2, xc1, pI, pJ, pF, pD, pR, pA, p1, p0, xpop, xpush, xsm, xhas, xif, xic, xsw, xai, xal, xhi, xhv, xrf, xret, xrtl, xrtf, xrtd, xrta, xrtv, xfit, xnew, cond_true, cond_false, f40, f41, f42, f43, List.length_cons, List.length_nil, Nat.reduceAdd, Nat.reduceSub, Nat.reduceMul, Nat.reduceBEq, List.map_cons, List.map_nil, List.headD_cons, List.getElem?_cons_zero, List.getElem?_cons_succ, List.set_cons_zero, List.set_cons_succ]
      exact ⟨Nat.zero_le _, Nat.zero_le _, hq⟩
    · have e : takeE N (nI r) (nI b) = 12 := by unfold takeE; rw [if_neg z, if_neg z4, n_cl (by omega), n_cl (by omega), if_neg z5]
      exact ⟨Nat.le_refl _, Nat.le_refl _, hX _ _ ⟨by rw [e]; decide, e.symm, rfl⟩⟩
  · have e : takeE N x y = 10 := by unfold takeE; rw [if_pos z]
    exact ⟨Nat.le_refl _, Nat.le_refl _, hX _ _ ⟨by rw [e]; decide, e.symm, rfl⟩⟩
def turnE (x : Int32) : Nat := if x < 0 ∨ nI 1 < x then 11 else 0
set_option maxRecDepth 100000 in
set_option maxHeartbeats 4000000 in
theorem ev_turn (d : Nat) (N V S C : List Nat) (P : List Value) (sv tl : Nat) (has : Bool) (g : xH) (x : Int32) (ok : stN N) (hV : V.length = 108) (hs : sv ≤ 6) :
    Ev xT (d + 2) N_B_turn [.ref 0, .int x] (hB N V S C P sv tl has g)
      (Ro (turnE x) (some (.int (nI (N.getD 1 0)))) (hB (N.set 1 x.toNatClampNeg) (saveV N V sv) S C P (saveS sv) tl has g))
      (Xo (turnE x) (hB N V S C P sv tl has g)) := by
  refine Ev_intro t_B_turn (Nat.le_of_ble_eq_true rfl) ?_
  intro Q X hQ hX K hK
  show K 0 [some (.ref 0), some (.int x), none] [] _ 0 0
  obtain ⟨hN, h0, h1, h3, h3', h4, h5⟩ := ok
  have f1 : x < 0 ∨ nI 1 < x → K 1 [some (.ref 0), some (.int x), none] [] (hB N V S C P sv tl has g) 0 0 := by
    intro z
    have e : turnE x = 11 := by unfold turnE; rw [if_pos z]
    refine hK 1 _ _ _ _ _ _ _ _ rfl ?_
    dsimp only [k_B_turn_1, hN1, hB, wpI, xop, xcall, xli, xlj, xlf, xld, xla, xlg, xst, xst2, xc1, pI, pJ, pF, pD, pR, pA, p1, p0, xpop, xpush, xsm, xhas, xif, xic, xsw, xai, xal, xhi, xhv, xrf, xret, xrtl, xrtf, xrtd, xrta, xrtv, xfit, xnew, cond_true, cond_false, f40, f41, f42, f43, List.length_cons, List.length_nil, Nat.reduceAdd, Nat.reduceSub, Nat.reduceMul, Nat.reduceBEq, List.map_cons, List.map_nil, List.headD_cons, List.getElem?_cons_zero, List.getElem?_cons_succ, List.set_cons_zero, List.set_cons_succ]
    exact ⟨Nat.le_refl _, Nat.le_refl _, hX _ _ ⟨by rw [e]; decide, e.symm, rfl⟩⟩
  refine hK 0 _ _ _ _ _ _ _ _ rfl ?_
  dsimp only [k_B_turn_0, hN1, hB, wpI, xop, xcall, xli, xlj, xlf, xld, xla, xlg, xst, xst2, xc1, pI, pJ, pF, pD, pR, pA, p1, p0, xpop, xpush, xsm, xhas, xif, xic, xsw, xai, xal, xhi, xhv, xrf, xret, xrtl, xrtf, xrtd, xrta, xrtv, xfit, xnew, cond_true, cond_false, f40, f41, f42, f43, List.length_cons, List.length_nil, Nat.reduceAdd, Nat.reduceSub, Nat.reduceMul, Nat.reduceBEq, List.map_cons, List.map_nil, List.headD_cons, List.getElem?_cons_zero, List.getElem?_cons_succ, List.set_cons_zero, List.set_cons_succ]
  refine ⟨fun z => f1 (Or.inl z), fun z => ⟨fun z2 => ?_, fun z2 => f1 (Or.inr (Int32.not_le.mp z2))⟩⟩
  have e : turnE x = 0 := by
    unfold turnE
    rw [if_neg]
    rintro (q | q)
    · exact z q
    · exact Int32.not_lt.mpr z2 q
  obtain ⟨t, ht, rfl⟩ := nI_of z
  have hq := hQ _ _ ⟨e, rfl, rfl⟩
  rw [n_cl ht] at hq
  refine hK 2 _ _ _ _ _ _ _ _ rfl ?_
  dsimp only [k_B_turn_2, hN1, hB, wpI, xop, xcall, xli, xlj, xlf, xld, xla, xlg, xst, xst2, xc1, pI, pJ, pF, pD, pR, pA, p1, p0, xpop, xpush, xsm, xhas, xif, xic, xsw, xai, xal, xhi, xhv, xrf, xret, xrtl, xrtf, xrtd, xrta, xrtv, xfit, xnew, cond_true, cond_false, f40, f41, f42, f43, List.length_cons, List.length_nil, Nat.reduceAdd, Nat.reduceSub, Nat.reduceMul, Nat.reduceBEq, List.map_cons, List.map_nil, List.headD_cons, List.getElem?_cons_zero, List.getElem?_cons_succ, List.set_cons_zero, List.set_cons_succ]
  refine Ev_use (ev_save _ N V S C P sv tl has g hN hV hs) ?_
  dsimp only [hN1, hB, wpI, xop, xcall, xli, xlj, xlf, xld, xla, xlg, xst, xst2, xc1, pI, pJ, pF, pD, pR, pA, p1, p0, xpop, xpush, xsm, xhas, xif, xic, xsw, xai, xal, xhi, xhv, xrf, xret, xrtl, xrtf, xrtd, xrta, xrtv, xfit, xnew, cond_true, cond_false, f40, f41, f42, f43, List.length_cons, List.length_nil, Nat.reduceAdd, Nat.reduceSub, Nat.reduceMul, Nat.reduceBEq, List.map_cons, List.map_nil, List.headD_cons, List.getElem?_cons_zero, List.getElem?_cons_succ, List.set_cons_zero, List.set_cons_succ]
  try simp (disch := first | omega | (simp only [List.length_set]; omega)) only [nI_add, n_and, n_or, n_xor, n_i31, nI_leI, nI_ltI, n_e0, n_eq, n_m1e, n_l0, n_g0, n_p0, n_q0, n_cl, n_in, n_sub, n_shr, n_shl, n_div, bI_0, n_01, n_11, bI_or, not_false_eq_true, forall_const, not_true_eq_false, false_imp_iff, true_imp_iff, List.length_map, List.length_set, hN, nL_u, gs_eq, gs_ne, nI_set, Nat.reduceLT, true_and, and_true, pk_mul]
  exact ⟨Nat.zero_le _, Nat.zero_le _, hq⟩
def knockE (N : List Nat) (x y : Int32) : Nat := if isPlaceB x y = false then 10 else if hasN (N.getD 0 0) x.toNatClampNeg y.toNatClampNeg = true then 0 else 12
set_option maxRecDepth 100000 in
set_option maxHeartbeats 4000000 in
theorem ev_knock (d : Nat) (N V S C : List Nat) (P : List Value) (sv tl : Nat) (has : Bool) (g : xH) (x y : Int32) (ok : stN N) (hV : V.length = 108) (hs : sv ≤ 6) :
    Ev xT (d + 4) N_B_knock [.ref 0, .int x, .int y] (hB N V S C P sv tl has g)
      (Ro (knockE N x y) (some (.int (nI (pop (fallM (N.getD 0 0 &&& ((1 <<< (rsN x.toNatClampNeg + y.toNatClampNeg)) ^^^ 4294967295))))))) (hB (knockN N x.toNatClampNeg y.toNatClampNeg) (saveV N V sv) S C P (saveS sv) tl has g))
      (Xo (knockE N x y) (hB N V S C P sv tl has g)) := by
  refine Ev_intro t_B_knock (Nat.le_of_ble_eq_true rfl) ?_
  intro Q X hQ hX K hK
  show K 0 [some (.ref 0), some (.int x), some (.int y)] [] _ 0 0
  have ok' := ok
  obtain ⟨hN, h0, h1, h3, h3', h4, h5⟩ := ok
  refine hK 0 _ _ _ _ _ _ _ _ rfl ?_
  dsimp only [k_B_knock_0, hN1, hB, wpI, xop, xcall, xli, xlj, xlf, xld, xla, xlg, xst, xst2, xc1, pI, pJ, pF, pD, pR, pA, p1, p0, xpop, xpush, xsm, xhas, xif, xic, xsw, xai, xal, xhi, xhv, xrf, xret, xrtl, xrtf, xrtd, xrta, xrtv, xfit, xnew, cond_true, cond_false, f40, f41, f42, f43, List.length_cons, List.length_nil, Nat.reduceAdd, Nat.reduceSub, Nat.reduceMul, Nat.reduceBEq, List.map_cons, List.map_nil, List.headD_cons, List.getElem?_cons_zero, List.getElem?_cons_succ, List.set_cons_zero, List.set_cons_succ]
  refine Ev_use (ev_isPlace _ x y _) ?_
  dsimp only [hN1, hB, wpI, xop, xcall, xli, xlj, xlf, xld, xla, xlg, xst, xst2, xc1, pI, pJ, pF, pD, pR, pA, p1, p0, xpop, xpush, xsm, xhas, xif, xic, xsw, xai, xal, xhi, xhv, xrf, xret, xrtl, xrtf, xrtd, xrta, xrtv, xfit, xnew, cond_true, cond_false, f40, f41, f42, f43, List.length_cons, List.length_nil, Nat.reduceAdd, Nat.reduceSub, Nat.reduceMul, Nat.reduceBEq, List.map_cons, List.map_nil, List.headD_cons, List.getElem?_cons_zero, List.getElem?_cons_succ, List.set_cons_zero, List.set_cons_succ]
  rw [bI_0]
  refine ⟨fun z => ?_, fun z => ?_⟩
  · obtain ⟨r, p, hr, hp, rfl, rfl⟩ := place_of (b_nf z)
    refine hK 1 _ _ _ _ _ _ _ _ rfl ?_
    dsimp only [k_B_knock_1, hN1, hB, wpI, xop, xcall, xli, xlj, xlf, xld, xla, xlg, xst, xst2, xc1, pI, pJ, pF, pD, pR, pA, p1, p0, xpop, xpush, xsm, xhas, xif, xic, xsw, xai, xal, xhi, xhv, xrf, xret, xrtl, xrtf, xrtd, xrta, xrtv, xfit, xnew, cond_true, cond_false, f40, f41, f42, f43, List.length_cons, List.length_nil, Nat.reduceAdd, Nat.reduceSub, Nat.reduceMul, Nat.reduceBEq, List.map_cons, List.map_nil, List.headD_cons, List.getElem?_cons_zero, List.getElem?_cons_succ, List.set_cons_zero, List.set_cons_succ]
    try simp (disch := first | omega | (simp only [List.length_set]; omega)) only [nI_add, n_and, n_or, n_xor, n_i31, nI_leI, nI_ltI, n_e0, n_eq, n_m1e, n_l0, n_g0, n_p0, n_q0, n_cl, n_in, n_sub, n_shr, n_shl, n_div, bI_0, n_01, n_11, bI_or, not_false_eq_true, forall_const, not_true_eq_false, false_imp_iff, true_imp_iff, List.length_map, List.length_set, hN, nL_u, gs_eq, gs_ne, nI_set, Nat.reduceLT, true_and, and_true, pk_mul]
    refine Ev_use (ev_hasBottle _ _ r p _ h0 hr (by omega)) ?_
    dsimp only [hN1, hB, wpI, xop, xcall, xli, xlj, xlf, xld, xla, xlg, xst, xst2, xc1, pI, pJ, pF, pD, pR, pA, p1, p0, xpop, xpush, xsm, xhas, xif, xic, xsw, xai, xal, xhi, xhv, xrf, xret, xrtl, xrtf, xrtd, xrta, xrtv, xfit, xnew, cond_true, cond_false, f40, f41, f42, f43, List.length_cons, List.length_nil, Nat.reduceAdd, Nat.reduceSub, Nat.reduceMul, Nat.reduceBEq, List.map_cons, List.map_nil, List.headD_cons, List.getElem?_cons_zero, List.getElem?_cons_succ, List.set_cons_zero, List.set_cons_succ]
    rw [bI_0]
    refine ⟨fun z2 => ?_, fun z2 => ?_⟩
    · have hq := hQ _ _ ⟨by unfold knockE; rw [if_neg z, n_cl (by omega), n_cl (by omega), if_pos (b_nf z2)], rfl, rfl⟩
      rw [n_cl (by omega), n_cl (by omega)] at hq
      refine hK 2 _ _ _ _ _ _ _ _ rfl ?_
      dsimp only [k_B_knock_2, hN1, hB, wpI, xop, xcall, xli, xlj, xlf, xld, xla, xlg, xst, xst2, xc1, pI, pJ, pF, pD, pR, pA, p1, p0, xpop, xpush, xsm, xhas, xif, xic, xsw, xai, xal, xhi, xhv, xrf, xret, xrtl, xrtf, xrtd, xrta, xrtv, xfit, xnew, cond_true, cond_false, f40, f41, f42, f43, List.length_cons, List.length_nil, Nat.reduceAdd, Nat.reduceSub, Nat.reduceMul, Nat.reduceBEq, List.map_cons, List.map_nil, List.headD_cons, List.getElem?_cons_zero, List.getElem?_cons_succ, List.set_cons_zero, List.set_cons_succ]
      refine Ev_use (ev_save _ N V S C P sv tl has g hN hV hs) ?_
      dsimp only [hN1, hB, wpI, xop, xcall, xli, xlj, xlf, xld, xla, xlg, xst, xst2, xc1, pI, pJ, pF, pD, pR, pA, p1, p0, xpop, xpush, xsm, xhas, xif, xic, xsw, xai, xal, xhi, xhv, xrf, xret, xrtl, xrtf, xrtd, xrta, xrtv, xfit, xnew, cond_true, cond_false, f40, f41, f42, f43, List.length_cons, List.length_nil, Nat.reduceAdd, Nat.reduceSub, Nat.reduceMul, Nat.reduceBEq, List.map_cons, List.map_nil, List.headD_cons, List.getElem?_cons_zero, List.getElem?_cons_succ, List.set_cons_zero, List.set_cons_succ]
      refine Ev_use (ev_knockOut _ N _ _ r p hN h0 hr hp) ?_
      dsimp only [hN1, hB, wpI, xop, xcall, xli, xlj, xlf, xld, xla, xlg, xst, xst2, xc1, pI, pJ, pF, pD, pR, pA, p1, p0, xpop, xpush, xsm, xhas, xif, xic, xsw, xai, xal, xhi, xhv, xrf, xret, xrtl, xrtf, xrtd, xrta, xrtv, xfit, xnew, cond_true, cond_false, f40, f41, f42, f43, List.length_cons, List.length_nil, Nat.reduceAdd, Nat.reduceSub, Nat.reduceMul, Nat.reduceBEq, List.map_cons, List.map_nil, List.headD_cons, List.getElem?_cons_zero, List.getElem?_cons_succ, List.set_cons_zero, List.set_cons_succ]
      exact ⟨Nat.zero_le _, Nat.zero_le _, hq⟩
    · have e : knockE N (nI r) (nI p) = 12 := by unfold knockE; rw [if_neg z, n_cl (by omega), n_cl (by omega), z2]; rfl
      exact ⟨Nat.le_refl _, Nat.le_refl _, hX _ _ ⟨by rw [e]; decide, e.symm, rfl⟩⟩
  · have e : knockE N x y = 10 := by unfold knockE; rw [if_pos z]
    exact ⟨Nat.le_refl _, Nat.le_refl _, hX _ _ ⟨by rw [e]; decide, e.symm, rfl⟩⟩
def putE (N : List Nat) (x y : Int32) : Nat := if isPlaceB x y = false then 10 else if hasRoomN (N.getD 0 0) x.toNatClampNeg y.toNatClampNeg = true then 0 else 12
set_option maxRecDepth 100000 in
set_option maxHeartbeats 4000000 in
theorem ev_put (d : Nat) (N V S C : List Nat) (P : List Value) (sv tl : Nat) (has : Bool) (g : xH) (x y : Int32) (ok : stN N) (hV : V.length = 108) (hs : sv ≤ 6) :
    Ev xT (d + 4) N_B_put [.ref 0, .int x, .int y] (hB N V S C P sv tl has g)
      (Ro (putE N x y) (some (.int (nI (pop (N.getD 0 0 ||| 1 <<< (rsN x.toNatClampNeg + y.toNatClampNeg)))))) (hB (N.set 0 (N.getD 0 0 ||| 1 <<< (rsN x.toNatClampNeg + y.toNatClampNeg))) (saveV N V sv) S C P (saveS sv) tl has g))
      (Xo (putE N x y) (hB N V S C P sv tl has g)) := by
  refine Ev_intro t_B_put (Nat.le_of_ble_eq_true rfl) ?_
  intro Q X hQ hX K hK
  show K 0 [some (.ref 0), some (.int x), some (.int y)] [] _ 0 0
  have ok' := ok
  obtain ⟨hN, h0, h1, h3, h3', h4, h5⟩ := ok
  refine hK 0 _ _ _ _ _ _ _ _ rfl ?_
  dsimp only [k_B_put_0, hN1, hB, wpI, xop, xcall, xli, xlj, xlf, xld, xla, xlg, xst, xst2, xc1, pI, pJ, pF, pD, pR, pA, p1, p0, xpop, xpush, xsm, xhas, xif, xic, xsw, xai, xal, xhi, xhv, xrf, xret, xrtl, xrtf, xrtd, xrta, xrtv, xfit, xnew, cond_true, cond_false, f40, f41, f42, f43, List.length_cons, List.length_nil, Nat.reduceAdd, Nat.reduceSub, Nat.reduceMul, Nat.reduceBEq, List.map_cons, List.map_nil, List.headD_cons, List.getElem?_cons_zero, List.getElem?_cons_succ, List.set_cons_zero, List.set_cons_succ]
  refine Ev_use (ev_isPlace _ x y _) ?_
  dsimp only [hN1, hB, wpI, xop, xcall, xli, xlj, xlf, xld, xla, xlg, xst, xst2, xc1, pI, pJ, pF, pD, pR, pA, p1, p0, xpop, xpush, xsm, xhas, xif, xic, xsw, xai, xal, xhi, xhv, xrf, xret, xrtl, xrtf, xrtd, xrta, xrtv, xfit, xnew, cond_true, cond_false, f40, f41, f42, f43, List.length_cons, List.length_nil, Nat.reduceAdd, Nat.reduceSub, Nat.reduceMul, Nat.reduceBEq, List.map_cons, List.map_nil, List.headD_cons, List.getElem?_cons_zero, List.getElem?_cons_succ, List.set_cons_zero, List.set_cons_succ]
  rw [bI_0]
  refine ⟨fun z => ?_, fun z => ?_⟩
  · obtain ⟨r, p, hr, hp, rfl, rfl⟩ := place_of (b_nf z)
    refine hK 1 _ _ _ _ _ _ _ _ rfl ?_
    dsimp only [k_B_put_1, hN1, hB, wpI, xop, xcall, xli, xlj, xlf, xld, xla, xlg, xst, xst2, xc1, pI, pJ, pF, pD, pR, pA, p1, p0, xpop, xpush, xsm, xhas, xif, xic, xsw, xai, xal, xhi, xhv, xrf, xret, xrtl, xrtf, xrtd, xrta, xrtv, xfit, xnew, cond_true, cond_false, f40, f41, f42, f43, List.length_cons, List.length_nil, Nat.reduceAdd, Nat.reduceSub, Nat.reduceMul, Nat.reduceBEq, List.map_cons, List.map_nil, List.headD_cons, List.getElem?_cons_zero, List.getElem?_cons_succ, List.set_cons_zero, List.set_cons_succ]
    try simp (disch := first | omega | (simp only [List.length_set]; omega)) only [nI_add, n_and, n_or, n_xor, n_i31, nI_leI, nI_ltI, n_e0, n_eq, n_m1e, n_l0, n_g0, n_p0, n_q0, n_cl, n_in, n_sub, n_shr, n_shl, n_div, bI_0, n_01, n_11, bI_or, not_false_eq_true, forall_const, not_true_eq_false, false_imp_iff, true_imp_iff, List.length_map, List.length_set, hN, nL_u, gs_eq, gs_ne, nI_set, Nat.reduceLT, true_and, and_true, pk_mul]
    refine Ev_use (ev_hasRoom _ _ r p _ h0 hr (by omega)) ?_
    dsimp only [hN1, hB, wpI, xop, xcall, xli, xlj, xlf, xld, xla, xlg, xst, xst2, xc1, pI, pJ, pF, pD, pR, pA, p1, p0, xpop, xpush, xsm, xhas, xif, xic, xsw, xai, xal, xhi, xhv, xrf, xret, xrtl, xrtf, xrtd, xrta, xrtv, xfit, xnew, cond_true, cond_false, f40, f41, f42, f43, List.length_cons, List.length_nil, Nat.reduceAdd, Nat.reduceSub, Nat.reduceMul, Nat.reduceBEq, List.map_cons, List.map_nil, List.headD_cons, List.getElem?_cons_zero, List.getElem?_cons_succ, List.set_cons_zero, List.set_cons_succ]
    rw [bI_0]
    refine ⟨fun z2 => ?_, fun z2 => ?_⟩
    · have hq := hQ _ _ ⟨by unfold putE; rw [if_neg z, n_cl (by omega), n_cl (by omega), if_pos (b_nf z2)], rfl, rfl⟩
      rw [n_cl (by omega), n_cl (by omega)] at hq
      refine hK 2 _ _ _ _ _ _ _ _ rfl ?_
      dsimp only [k_B_put_2, hN1, hB, wpI, xop, xcall, xli, xlj, xlf, xld, xla, xlg, xst, xst2, xc1, pI, pJ, pF, pD, pR, pA, p1, p0, xpop, xpush, xsm, xhas, xif, xic, xsw, xai, xal, xhi, xhv, xrf, xret, xrtl, xrtf, xrtd, xrta, xrtv, xfit, xnew, cond_true, cond_false, f40, f41, f42, f43, List.length_cons, List.length_nil, Nat.reduceAdd, Nat.reduceSub, Nat.reduceMul, Nat.reduceBEq, List.map_cons, List.map_nil, List.headD_cons, List.getElem?_cons_zero, List.getElem?_cons_succ, List.set_cons_zero, List.set_cons_succ]
      refine Ev_use (ev_save _ N V S C P sv tl has g hN hV hs) ?_
      dsimp only [hN1, hB, wpI, xop, xcall, xli, xlj, xlf, xld, xla, xlg, xst, xst2, xc1, pI, pJ, pF, pD, pR, pA, p1, p0, xpop, xpush, xsm, xhas, xif, xic, xsw, xai, xal, xhi, xhv, xrf, xret, xrtl, xrtf, xrtd, xrta, xrtv, xfit, xnew, cond_true, cond_false, f40, f41, f42, f43, List.length_cons, List.length_nil, Nat.reduceAdd, Nat.reduceSub, Nat.reduceMul, Nat.reduceBEq, List.map_cons, List.map_nil, List.headD_cons, List.getElem?_cons_zero, List.getElem?_cons_succ, List.set_cons_zero, List.set_cons_succ]
      refine Ev_use (ev_addBottle _ N _ _ r p hN h0 hr hp) ?_
      dsimp only [hN1, hB, wpI, xop, xcall, xli, xlj, xlf, xld, xla, xlg, xst, xst2, xc1, pI, pJ, pF, pD, pR, pA, p1, p0, xpop, xpush, xsm, xhas, xif, xic, xsw, xai, xal, xhi, xhv, xrf, xret, xrtl, xrtf, xrtd, xrta, xrtv, xfit, xnew, cond_true, cond_false, f40, f41, f42, f43, List.length_cons, List.length_nil, Nat.reduceAdd, Nat.reduceSub, Nat.reduceMul, Nat.reduceBEq, List.map_cons, List.map_nil, List.headD_cons, List.getElem?_cons_zero, List.getElem?_cons_succ, List.set_cons_zero, List.set_cons_succ]
      exact ⟨Nat.zero_le _, Nat.zero_le _, hq⟩
    · have e : putE N (nI r) (nI p) = 12 := by unfold putE; rw [if_neg z, n_cl (by omega), n_cl (by omega), z2]; rfl
      exact ⟨Nat.le_refl _, Nat.le_refl _, hX _ _ ⟨by rw [e]; decide, e.symm, rfl⟩⟩
  · have e : putE N x y = 10 := by unfold putE; rw [if_pos z]
    exact ⟨Nat.le_refl _, Nat.le_refl _, hX _ _ ⟨by rw [e]; decide, e.symm, rfl⟩⟩
set_option maxRecDepth 100000 in
set_option maxHeartbeats 4000000 in
theorem ev_mirror (d : Nat) (N V S C : List Nat) (P : List Value) (sv tl : Nat) (has : Bool) (g : xH) (ok : stN N) (hV : V.length = 108) (hs : sv ≤ 6) :
    Ev xT (d + 5) N_B_mirror [.ref 0] (hB N V S C P sv tl has g) (Rt (some (.int (nI (mirN (N.getD 0 0))))) (hB (swapN N) (saveV N V sv) S C P (saveS sv) tl has g)) NX := by
  refine Ev_intro t_B_mirror (Nat.le_of_ble_eq_true rfl) ?_
  intro Q X hQ hX K hK
  show K 0 [some (.ref 0)] [] _ 0 0
  have hq := hQ _ _ ⟨rfl, rfl⟩
  refine hK 0 _ _ _ _ _ _ _ _ rfl ?_
  dsimp only [k_B_mirror_0, hN1, hB, wpI, xop, xcall, xli, xlj, xlf, xld, xla, xlg, xst, xst2, xc1, pI, pJ, pF, pD, pR, pA, p1, p0, xpop, xpush, xsm, xhas, xif, xic, xsw, xai, xal, xhi, xhv, xrf, xret, xrtl, xrtf, xrtd, xrta, xrtv, xfit, xnew, cond_true, cond_false, f40, f41, f42, f43, List.length_cons, List.length_nil, Nat.reduceAdd, Nat.reduceSub, Nat.reduceMul, Nat.reduceBEq, List.map_cons, List.map_nil, List.headD_cons, List.getElem?_cons_zero, List.getElem?_cons_succ, List.set_cons_zero, List.set_cons_succ]
  refine Ev_use (ev_save _ N V S C P sv tl has g ok.1 hV hs) ?_
  dsimp only [hN1, hB, wpI, xop, xcall, xli, xlj, xlf, xld, xla, xlg, xst, xst2, xc1, pI, pJ, pF, pD, pR, pA, p1, p0, xpop, xpush, xsm, xhas, xif, xic, xsw, xai, xal, xhi, xhv, xrf, xret, xrtl, xrtf, xrtd, xrta, xrtv, xfit, xnew, cond_true, cond_false, f40, f41, f42, f43, List.length_cons, List.length_nil, Nat.reduceAdd, Nat.reduceSub, Nat.reduceMul, Nat.reduceBEq, List.map_cons, List.map_nil, List.headD_cons, List.getElem?_cons_zero, List.getElem?_cons_succ, List.set_cons_zero, List.set_cons_succ]
  refine Ev_use (ev_swapSides _ N _ _ ok) ?_
  dsimp only [hN1, hB, wpI, xop, xcall, xli, xlj, xlf, xld, xla, xlg, xst, xst2, xc1, pI, pJ, pF, pD, pR, pA, p1, p0, xpop, xpush, xsm, xhas, xif, xic, xsw, xai, xal, xhi, xhv, xrf, xret, xrtl, xrtf, xrtd, xrta, xrtv, xfit, xnew, cond_true, cond_false, f40, f41, f42, f43, List.length_cons, List.length_nil, Nat.reduceAdd, Nat.reduceSub, Nat.reduceMul, Nat.reduceBEq, List.map_cons, List.map_nil, List.headD_cons, List.getElem?_cons_zero, List.getElem?_cons_succ, List.set_cons_zero, List.set_cons_succ]
  exact ⟨Nat.zero_le _, Nat.zero_le _, hq⟩
set_option maxRecDepth 100000 in
set_option maxHeartbeats 4000000 in
theorem ev_refill (d : Nat) (N V S C : List Nat) (P : List Value) (sv tl : Nat) (has : Bool) (g : xH) (ok : stN N) (hV : V.length = 108) (hs : sv ≤ 6) :
    Ev xT (d + 5) N_B_refill [.ref 0] (hB N V S C P sv tl has g) (Rt (some (.int (nI (15 - pop (N.getD 0 0))))) (hB (fillN N) (saveV N V sv) S C P (saveS sv) tl has g)) NX := by
  refine Ev_intro t_B_refill (Nat.le_of_ble_eq_true rfl) ?_
  intro Q X hQ hX K hK
  show K 0 [some (.ref 0)] [] _ 0 0
  have hq := hQ _ _ ⟨rfl, rfl⟩
  refine hK 0 _ _ _ _ _ _ _ _ rfl ?_
  dsimp only [k_B_refill_0, hN1, hB, wpI, xop, xcall, xli, xlj, xlf, xld, xla, xlg, xst, xst2, xc1, pI, pJ, pF, pD, pR, pA, p1, p0, xpop, xpush, xsm, xhas, xif, xic, xsw, xai, xal, xhi, xhv, xrf, xret, xrtl, xrtf, xrtd, xrta, xrtv, xfit, xnew, cond_true, cond_false, f40, f41, f42, f43, List.length_cons, List.length_nil, Nat.reduceAdd, Nat.reduceSub, Nat.reduceMul, Nat.reduceBEq, List.map_cons, List.map_nil, List.headD_cons, List.getElem?_cons_zero, List.getElem?_cons_succ, List.set_cons_zero, List.set_cons_succ]
  refine Ev_use (ev_save _ N V S C P sv tl has g ok.1 hV hs) ?_
  dsimp only [hN1, hB, wpI, xop, xcall, xli, xlj, xlf, xld, xla, xlg, xst, xst2, xc1, pI, pJ, pF, pD, pR, pA, p1, p0, xpop, xpush, xsm, xhas, xif, xic, xsw, xai, xal, xhi, xhv, xrf, xret, xrtl, xrtf, xrtd, xrta, xrtv, xfit, xnew, cond_true, cond_false, f40, f41, f42, f43, List.length_cons, List.length_nil, Nat.reduceAdd, Nat.reduceSub, Nat.reduceMul, Nat.reduceBEq, List.map_cons, List.map_nil, List.headD_cons, List.getElem?_cons_zero, List.getElem?_cons_succ, List.set_cons_zero, List.set_cons_succ]
  refine Ev_use (ev_fillUp _ N _ _ ok) ?_
  dsimp only [hN1, hB, wpI, xop, xcall, xli, xlj, xlf, xld, xla, xlg, xst, xst2, xc1, pI, pJ, pF, pD, pR, pA, p1, p0, xpop, xpush, xsm, xhas, xif, xic, xsw, xai, xal, xhi, xhv, xrf, xret, xrtl, xrtf, xrtd, xrta, xrtv, xfit, xnew, cond_true, cond_false, f40, f41, f42, f43, List.length_cons, List.length_nil, Nat.reduceAdd, Nat.reduceSub, Nat.reduceMul, Nat.reduceBEq, List.map_cons, List.map_nil, List.headD_cons, List.getElem?_cons_zero, List.getElem?_cons_succ, List.set_cons_zero, List.set_cons_succ]
  exact ⟨Nat.zero_le _, Nat.zero_le _, hq⟩
end
section
/-! ===== the class: settings, texts, the snapshot, looks ===== -/
def setLo (x : Int32) : Int32 := if x = 0 then nI 1 else nI 0
def setHi (x : Int32) : Int32 := if x = 0 then nI 3 else nI 1
def setE (x v : Int32) : Nat := if isSettingB x = false then 10 else if v < setLo x ∨ setHi x < v then 11 else 0
set_option maxRecDepth 100000 in
set_option maxHeartbeats 4000000 in
theorem ev_set (d : Nat) (N V S C : List Nat) (P : List Value) (sv tl : Nat) (has : Bool) (g : xH) (x v : Int32) (hN : N.length = 18) (hV : V.length = 108) (hs : sv ≤ 6) :
    Ev xT (d + 2) N_B_set [.ref 0, .int x, .int v] (hB N V S C P sv tl has g)
      (Ro (setE x v) (some (.int (nI (N.getD (3 + x.toNatClampNeg) 0)))) (hB (N.set (3 + x.toNatClampNeg) v.toNatClampNeg) (saveV N V sv) S C P (saveS sv) tl has g))
      (Xo (setE x v) (hB N V S C P sv tl has g)) := by
  refine Ev_intro t_B_set (Nat.le_of_ble_eq_true rfl) ?_
  intro Q X hQ hX K hK
  show K 0 [some (.ref 0), some (.int x), some (.int v), none, none, none] [] _ 0 0
  have go5 : isSettingB x = true → ∀ L4, K 5 [some (.ref 0), some (.int x), some (.int v), some (.int (setLo x)), L4, none] [.int (setHi x)] (hB N V S C P sv tl has g) 0 0 := by
    intro z L4
    have f6 : v < setLo x ∨ setHi x < v → ∀ L5, K 6 [some (.ref 0), some (.int x), some (.int v), some (.int (setLo x)), L5, none] [] (hB N V S C P sv tl has g) 0 0 := by
      intro z2 L5
      have e : setE x v = 11 := by unfold setE; rw [if_neg (by rw [z]; decide), if_pos z2]
      refine hK 6 _ _ _ _ _ _ _ _ rfl ?_
      dsimp only [k_B_set_6, hN1, hB, wpI, xop, xcall, xli, xlj, xlf, xld, xla, xlg, xst, xst2, xc1, pI, pJ, pF, pD, pR, pA, p1, p0, xpop, xpush, xsm, xhas, xif, xic, xsw, xai, xal, xhi, xhv, xrf, xret, xrtl, xrtf, xrtd, xrta, xrtv, xfit, xnew, cond_true, cond_false, f40, f41, f42, f43, List.length_cons, List.length_nil, Nat.reduceAdd, Nat.reduceSub, Nat.reduceMul, Nat.reduceBEq, List.map_cons, List.map_nil, List.headD_cons, List.getElem?_cons_zero, List.getElem?_cons_succ, List.set_cons_zero, List.set_cons_succ]
      exact ⟨Nat.le_refl _, Nat.le_refl _, hX _ _ ⟨by rw [e]; decide, e.symm, rfl⟩⟩
    refine hK 5 _ _ _ _ _ _ _ _ rfl ?_
    dsimp only [k_B_set_5, hN1, hB, wpI, xop, xcall, xli, xlj, xlf, xld, xla, xlg, xst, xst2, xc1, pI, pJ, pF, pD, pR, pA, p1, p0, xpop, xpush, xsm, xhas, xif, xic, xsw, xai, xal, xhi, xhv, xrf, xret, xrtl, xrtf, xrtd, xrta, xrtv, xfit, xnew, cond_true, cond_false, f40, f41, f42, f43, List.length_cons, List.length_nil, Nat.reduceAdd, Nat.reduceSub, Nat.reduceMul, Nat.reduceBEq, List.map_cons, List.map_nil, List.headD_cons, List.getElem?_cons_zero, List.getElem?_cons_succ, List.set_cons_zero, List.set_cons_succ]
    refine ⟨fun z2 => f6 (Or.inl z2) _, fun z2 => ⟨fun z3 => ?_, fun z3 => f6 (Or.inr (Int32.not_le.mp z3)) _⟩⟩
    have e : setE x v = 0 := by
      unfold setE
      rw [if_neg (by rw [z]; decide), if_neg]
      rintro (q | q)
      · exact z2 q
      · exact Int32.not_lt.mpr z3 q
    have hq := hQ _ _ ⟨e, rfl, rfl⟩
    obtain ⟨r, hr, rfl⟩ := set_of z
    have lo0 : (0 : Int32) ≤ setLo (nI r) := by
      unfold setLo
      split <;> decide
    obtain ⟨w, hw, rfl⟩ := nI_of (show ¬ v < 0 from fun q => z2 (Int32.lt_of_lt_of_le q lo0))
    rw [n_cl (by omega), n_cl hw] at hq
    refine hK 7 _ _ _ _ _ _ _ _ rfl ?_
    dsimp only [k_B_set_7, hN1, hB, wpI, xop, xcall, xli, xlj, xlf, xld, xla, xlg, xst, xst2, xc1, pI, pJ, pF, pD, pR, pA, p1, p0, xpop, xpush, xsm, xhas, xif, xic, xsw, xai, xal, xhi, xhv, xrf, xret, xrtl, xrtf, xrtd, xrta, xrtv, xfit, xnew, cond_true, cond_false, f40, f41, f42, f43, List.length_cons, List.length_nil, Nat.reduceAdd, Nat.reduceSub, Nat.reduceMul, Nat.reduceBEq, List.map_cons, List.map_nil, List.headD_cons, List.getElem?_cons_zero, List.getElem?_cons_succ, List.set_cons_zero, List.set_cons_succ]
    refine Ev_use (ev_save _ N V S C P sv tl has g hN hV hs) ?_
    dsimp only [hN1, hB, wpI, xop, xcall, xli, xlj, xlf, xld, xla, xlg, xst, xst2, xc1, pI, pJ, pF, pD, pR, pA, p1, p0, xpop, xpush, xsm, xhas, xif, xic, xsw, xai, xal, xhi, xhv, xrf, xret, xrtl, xrtf, xrtd, xrta, xrtv, xfit, xnew, cond_true, cond_false, f40, f41, f42, f43, List.length_cons, List.length_nil, Nat.reduceAdd, Nat.reduceSub, Nat.reduceMul, Nat.reduceBEq, List.map_cons, List.map_nil, List.headD_cons, List.getElem?_cons_zero, List.getElem?_cons_succ, List.set_cons_zero, List.set_cons_succ]
    try simp (disch := first | omega | (simp only [List.length_set]; omega)) only [nI_add, n_and, n_or, n_xor, n_i31, nI_leI, nI_ltI, n_e0, n_eq, n_m1e, n_l0, n_g0, n_p0, n_q0, n_cl, n_in, n_sub, n_shr, n_shl, n_div, bI_0, n_01, n_11, bI_or, not_false_eq_true, forall_const, not_true_eq_false, false_imp_iff, true_imp_iff, List.length_map, List.length_set, hN, nL_u, gs_eq, gs_ne, nI_set, Nat.reduceLT, true_and, and_true, pk_mul]
    exact ⟨by omega, by omega, Nat.zero_le _, Nat.zero_le _, hq⟩
  refine hK 0 _ _ _ _ _ _ _ _ rfl ?_
  dsimp only [k_B_set_0, hN1, hB, wpI, xop, xcall, xli, xlj, xlf, xld, xla, xlg, xst, xst2, xc1, pI, pJ, pF, pD, pR, pA, p1, p0, xpop, xpush, xsm, xhas, xif, xic, xsw, xai, xal, xhi, xhv, xrf, xret, xrtl, xrtf, xrtd, xrta, xrtv, xfit, xnew, cond_true, cond_false, f40, f41, f42, f43, List.length_cons, List.length_nil, Nat.reduceAdd, Nat.reduceSub, Nat.reduceMul, Nat.reduceBEq, List.map_cons, List.map_nil, List.headD_cons, List.getElem?_cons_zero, List.getElem?_cons_succ, List.set_cons_zero, List.set_cons_succ]
  refine Ev_use (ev_isSetting _ x _) ?_
  dsimp only [hN1, hB, wpI, xop, xcall, xli, xlj, xlf, xld, xla, xlg, xst, xst2, xc1, pI, pJ, pF, pD, pR, pA, p1, p0, xpop, xpush, xsm, xhas, xif, xic, xsw, xai, xal, xhi, xhv, xrf, xret, xrtl, xrtf, xrtd, xrta, xrtv, xfit, xnew, cond_true, cond_false, f40, f41, f42, f43, List.length_cons, List.length_nil, Nat.reduceAdd, Nat.reduceSub, Nat.reduceMul, Nat.reduceBEq, List.map_cons, List.map_nil, List.headD_cons, List.getElem?_cons_zero, List.getElem?_cons_succ, List.set_cons_zero, List.set_cons_succ]
  rw [bI_0]
  refine ⟨fun z => ?_, fun z => ?_⟩
  · have z := b_nf z
    have go3 : K 3 [some (.ref 0), some (.int x), some (.int v), none, none, none] [.int (setLo x)] (hB N V S C P sv tl has g) 0 0 := by
      refine hK 3 _ _ _ _ _ _ _ _ rfl ?_
      dsimp only [k_B_set_3, hN1, hB, wpI, xop, xcall, xli, xlj, xlf, xld, xla, xlg, xst, xst2, xc1, pI, pJ, pF, pD, pR, pA, p1, p0, xpop, xpush, xsm, xhas, xif, xic, xsw, xai, xal, xhi, xhv, xrf, xret, xrtl, xrtf, xrtd, xrta, xrtv, xfit, xnew, cond_true, cond_false, f40, f41, f42, f43, List.length_cons, List.length_nil, Nat.reduceAdd, Nat.reduceSub, Nat.reduceMul, Nat.reduceBEq, List.map_cons, List.map_nil, List.headD_cons, List.getElem?_cons_zero, List.getElem?_cons_succ, List.set_cons_zero, List.set_cons_succ]
      refine ⟨fun z2 => ?_, fun z2 => ?_⟩
      · have h := go5 z none
        unfold setHi at h
        rw [if_neg z2] at h
        refine hK 4 _ _ _ _ _ _ _ _ rfl ?_
        dsimp only [k_B_set_4, hN1, hB, wpI, xop, xcall, xli, xlj, xlf, xld, xla, xlg, xst, xst2, xc1, pI, pJ, pF, pD, pR, pA, p1, p0, xpop, xpush, xsm, xhas, xif, xic, xsw, xai, xal, xhi, xhv, xrf, xret, xrtl, xrtf, xrtd, xrta, xrtv, xfit, xnew, cond_true, cond_false, f40, f41, f42, f43, List.length_cons, List.length_nil, Nat.reduceAdd, Nat.reduceSub, Nat.reduceMul, Nat.reduceBEq, List.map_cons, List.map_nil, List.headD_cons, List.getElem?_cons_zero, List.getElem?_cons_succ, List.set_cons_zero, List.set_cons_succ]
        exact h
      · have h := go5 z none
        unfold setHi at h
        rw [if_pos z2] at h
        exact h
    unfold setLo at go3
    refine hK 1 _ _ _ _ _ _ _ _ rfl ?_
    dsimp only [k_B_set_1, hN1, hB, wpI, xop, xcall, xli, xlj, xlf, xld, xla, xlg, xst, xst2, xc1, pI, pJ, pF, pD, pR, pA, p1, p0, xpop, xpush, xsm, xhas, xif, xic, xsw, xai, xal, xhi, xhv, xrf, xret, xrtl, xrtf, xrtd, xrta, xrtv, xfit, xnew, cond_true, cond_false, f40, f41, f42, f43, List.length_cons, List.length_nil, Nat.reduceAdd, Nat.reduceSub, Nat.reduceMul, Nat.reduceBEq, List.map_cons, List.map_nil, List.headD_cons, List.getElem?_cons_zero, List.getElem?_cons_succ, List.set_cons_zero, List.set_cons_succ]
    refine ⟨fun z2 => ?_, fun z2 => ?_⟩
    · rw [if_neg z2] at go3
      refine hK 2 _ _ _ _ _ _ _ _ rfl ?_
      dsimp only [k_B_set_2, hN1, hB, wpI, xop, xcall, xli, xlj, xlf, xld, xla, xlg, xst, xst2, xc1, pI, pJ, pF, pD, pR, pA, p1, p0, xpop, xpush, xsm, xhas, xif, xic, xsw, xai, xal, xhi, xhv, xrf, xret, xrtl, xrtf, xrtd, xrta, xrtv, xfit, xnew, cond_true, cond_false, f40, f41, f42, f43, List.length_cons, List.length_nil, Nat.reduceAdd, Nat.reduceSub, Nat.reduceMul, Nat.reduceBEq, List.map_cons, List.map_nil, List.headD_cons, List.getElem?_cons_zero, List.getElem?_cons_succ, List.set_cons_zero, List.set_cons_succ]
      exact go3
    · rw [if_pos z2] at go3
      exact go3
  · have e : setE x v = 10 := by unfold setE; rw [if_pos z]
    exact ⟨Nat.le_refl _, Nat.le_refl _, hX _ _ ⟨by rw [e]; decide, e.symm, rfl⟩⟩
theorem cpy18 {N S : List Nat} (hN : N.length = 18) (hS : S.length = 18) : cpyN N S 0 0 18 = N := by
  unfold cpyN
  rw [List.take_zero, List.nil_append, List.drop_zero, List.take_of_length_le (by omega), List.drop_of_length_le (by omega), List.append_nil]
set_option maxRecDepth 100000 in
set_option maxHeartbeats 4000000 in
theorem ev_keep (d : Nat) (N V S C : List Nat) (P : List Value) (sv tl : Nat) (has : Bool) (g : xH) (hN : N.length = 18) (hS : S.length = 18) :
    Ev xT (d + 1) N_B_keep [.ref 0] (hB N V S C P sv tl has g) (Rt (some (.int (nI (N.getD 0 0)))) (hB N V N C P sv tl true g)) NX := by
  refine Ev_intro t_B_keep (Nat.le_of_ble_eq_true rfl) ?_
  intro Q X hQ hX K hK
  show K 0 [some (.ref 0)] [] _ 0 0
  have hq := hQ _ _ ⟨rfl, rfl⟩
  refine hK 0 _ _ _ _ _ _ _ _ rfl ?_
  dsimp only [k_B_keep_0, hN1, hB, wpI, xop, xcall, xli, xlj, xlf, xld, xla, xlg, xst, xst2, xc1, pI, pJ, pF, pD, pR, pA, p1, p0, xpop, xpush, xsm, xhas, xif, xic, xsw, xai, xal, xhi, xhv, xrf, xret, xrtl, xrtf, xrtd, xrta, xrtv, xfit, xnew, cond_true, cond_false, f40, f41, f42, f43, List.length_cons, List.length_nil, Nat.reduceAdd, Nat.reduceSub, Nat.reduceMul, Nat.reduceBEq, List.map_cons, List.map_nil, List.headD_cons, List.getElem?_cons_zero, List.getElem?_cons_succ, List.set_cons_zero, List.set_cons_succ]
  try simp (disch := first | omega | (simp only [List.length_set]; omega)) only [nI_add, n_and, n_or, n_xor, n_i31, nI_leI, nI_ltI, n_e0, n_eq, n_m1e, n_l0, n_g0, n_p0, n_q0, n_cl, n_in, n_sub, n_shr, n_shl, n_div, bI_0, n_01, n_11, bI_or, not_false_eq_true, forall_const, not_true_eq_false, false_imp_iff, true_imp_iff, List.length_map, List.length_set, hN, nL_u, gs_eq, gs_ne, nI_set, Nat.reduceLT, true_and, and_true, pk_mul, xcpy_nI, hS, cpy18]
  exact ⟨by decide, by decide, Or.inr rfl, Nat.le_refl _, Nat.le_refl _, hq⟩
def backE (has : Bool) : Nat := if has then 0 else 12
set_option maxRecDepth 100000 in
set_option maxHeartbeats 4000000 in
theorem ev_goBack (d : Nat) (N V S C : List Nat) (P : List Value) (sv tl : Nat) (has : Bool) (g : xH) (hN : N.length = 18) (hV : V.length = 108) (hS : S.length = 18) (hs : sv ≤ 6) :
    Ev xT (d + 2) N_B_goBack [.ref 0] (hB N V S C P sv tl has g) (Ro (backE has) (some (.int (nI (S.getD 0 0)))) (hB S (saveV N V sv) S C P (saveS sv) tl has g)) (Xo (backE has) (hB N V S C P sv tl has g)) := by
  refine Ev_intro t_B_goBack (Nat.le_of_ble_eq_true rfl) ?_
  intro Q X hQ hX K hK
  show K 0 [some (.ref 0)] [] _ 0 0
  refine hK 0 _ _ _ _ _ _ _ _ rfl ?_
  dsimp only [k_B_goBack_0, hN1, hB, wpI, xop, xcall, xli, xlj, xlf, xld, xla, xlg, xst, xst2, xc1, pI, pJ, pF, pD, pR, pA, p1, p0, xpop, xpush, xsm, xhas, xif, xic, xsw, xai, xal, xhi, xhv, xrf, xret, xrtl, xrtf, xrtd, xrta, xrtv, xfit, xnew, cond_true, cond_false, f40, f41, f42, f43, List.length_cons, List.length_nil, Nat.reduceAdd, Nat.reduceSub, Nat.reduceMul, Nat.reduceBEq, List.map_cons, List.map_nil, List.headD_cons, List.getElem?_cons_zero, List.getElem?_cons_succ, List.set_cons_zero, List.set_cons_succ]
  rw [bI_0]
  refine ⟨fun z => ?_, fun z => ?_⟩
  · have hq := hQ _ _ ⟨by rw [b_nf z]; rfl, rfl, rfl⟩
    refine hK 1 _ _ _ _ _ _ _ _ rfl ?_
    dsimp only [k_B_goBack_1, hN1, hB, wpI, xop, xcall, xli, xlj, xlf, xld, xla, xlg, xst, xst2, xc1, pI, pJ, pF, pD, pR, pA, p1, p0, xpop, xpush, xsm, xhas, xif, xic, xsw, xai, xal, xhi, xhv, xrf, xret, xrtl, xrtf, xrtd, xrta, xrtv, xfit, xnew, cond_true, cond_false, f40, f41, f42, f43, List.length_cons, List.length_nil, Nat.reduceAdd, Nat.reduceSub, Nat.reduceMul, Nat.reduceBEq, List.map_cons, List.map_nil, List.headD_cons, List.getElem?_cons_zero, List.getElem?_cons_succ, List.set_cons_zero, List.set_cons_succ]
    refine Ev_use (ev_save _ N V S C P sv tl has g hN hV hs) ?_
    dsimp only [hN1, hB, wpI, xop, xcall, xli, xlj, xlf, xld, xla, xlg, xst, xst2, xc1, pI, pJ, pF, pD, pR, pA, p1, p0, xpop, xpush, xsm, xhas, xif, xic, xsw, xai, xal, xhi, xhv, xrf, xret, xrtl, xrtf, xrtd, xrta, xrtv, xfit, xnew, cond_true, cond_false, f40, f41, f42, f43, List.length_cons, List.length_nil, Nat.reduceAdd, Nat.reduceSub, Nat.reduceMul, Nat.reduceBEq, List.map_cons, List.map_nil, List.headD_cons, List.getElem?_cons_zero, List.getElem?_cons_succ, List.set_cons_zero, List.set_cons_succ]
    try simp (disch := first | omega | (simp only [List.length_set]; omega)) only [nI_add, n_and, n_or, n_xor, n_i31, nI_leI, nI_ltI, n_e0, n_eq, n_m1e, n_l0, n_g0, n_p0, n_q0, n_cl, n_in, n_sub, n_shr, n_shl, n_div, bI_0, n_01, n_11, bI_or, not_false_eq_true, forall_const, not_true_eq_false, false_imp_iff, true_imp_iff, List.length_map, List.length_set, hN, nL_u, gs_eq, gs_ne, nI_set, Nat.reduceLT, true_and, and_true, pk_mul, xcpy_nI, hS, cpy18]
    exact ⟨by decide, by decide, Nat.zero_le _, Nat.zero_le _, hq⟩
  · have e : backE has = 12 := by rw [z]; rfl
    exact ⟨Nat.le_refl _, Nat.le_refl _, hX _ _ ⟨by rw [e]; decide, e.symm, rfl⟩⟩
def undoE (sv : Nat) : Nat := if 0 < sv then 0 else 12
set_option maxRecDepth 100000 in
set_option maxHeartbeats 4000000 in
theorem ev_undo (d : Nat) (N V S C : List Nat) (P : List Value) (sv tl : Nat) (has : Bool) (g : xH) (hN : N.length = 18) (hV : V.length = 108) (hs : sv ≤ 6) :
    Ev xT (d + 2) N_B_undo [.ref 0] (hB N V S C P sv tl has g) (Ro (undoE sv) (some (.int (nI (sv - 1)))) (hB (cpyN V N ((sv - 1) * 18) 0 18) V S C P (sv - 1) tl has g)) (Xo (undoE sv) (hB N V S C P sv tl has g)) := by
  refine Ev_intro t_B_undo (Nat.le_of_ble_eq_true rfl) ?_
  intro Q X hQ hX K hK
  show K 0 [some (.ref 0)] [] _ 0 0
  refine hK 0 _ _ _ _ _ _ _ _ rfl ?_
  dsimp only [k_B_undo_0, hN1, hB, wpI, xop, xcall, xli, xlj, xlf, xld, xla, xlg, xst, xst2, xc1, pI, pJ, pF, pD, pR, pA, p1, p0, xpop, xpush, xsm, xhas, xif, xic, xsw, xai, xal, xhi, xhv, xrf, xret, xrtl, xrtf, xrtd, xrta, xrtv, xfit, xnew, cond_true, cond_false, f40, f41, f42, f43, List.length_cons, List.length_nil, Nat.reduceAdd, Nat.reduceSub, Nat.reduceMul, Nat.reduceBEq, List.map_cons, List.map_nil, List.headD_cons, List.getElem?_cons_zero, List.getElem?_cons_succ, List.set_cons_zero, List.set_cons_succ]
  try simp (disch := first | omega | (simp only [List.length_set]; omega)) only [nI_add, n_and, n_or, n_xor, n_i31, nI_leI, nI_ltI, n_e0, n_eq, n_m1e, n_l0, n_g0, n_p0, n_q0, n_cl, n_in, n_sub, n_shr, n_shl, n_div, bI_0, n_01, n_11, bI_or, not_false_eq_true, forall_const, not_true_eq_false, false_imp_iff, true_imp_iff, List.length_map, List.length_set, hN, nL_u, gs_eq, gs_ne, nI_set, Nat.reduceLT, true_and, and_true, pk_mul]
  refine ⟨fun z => ?_, fun z => ?_⟩
  · have hq := hQ _ _ ⟨by unfold undoE; rw [if_pos z], rfl, rfl⟩
    refine hK 1 _ _ _ _ _ _ _ _ rfl ?_
    dsimp only [k_B_undo_1, hN1, hB, wpI, xop, xcall, xli, xlj, xlf, xld, xla, xlg, xst, xst2, xc1, pI, pJ, pF, pD, pR, pA, p1, p0, xpop, xpush, xsm, xhas, xif, xic, xsw, xai, xal, xhi, xhv, xrf, xret, xrtl, xrtf, xrtd, xrta, xrtv, xfit, xnew, cond_true, cond_false, f40, f41, f42, f43, List.length_cons, List.length_nil, Nat.reduceAdd, Nat.reduceSub, Nat.reduceMul, Nat.reduceBEq, List.map_cons, List.map_nil, List.headD_cons, List.getElem?_cons_zero, List.getElem?_cons_succ, List.set_cons_zero, List.set_cons_succ]
    try simp (disch := first | omega | (simp only [List.length_set]; omega)) only [nI_add, n_and, n_or, n_xor, n_i31, nI_leI, nI_ltI, n_e0, n_eq, n_m1e, n_l0, n_g0, n_p0, n_q0, n_cl, n_in, n_sub, n_shr, n_shl, n_div, bI_0, n_01, n_11, bI_or, not_false_eq_true, forall_const, not_true_eq_false, false_imp_iff, true_imp_iff, List.length_map, List.length_set, hN, nL_u, gs_eq, gs_ne, nI_set, Nat.reduceLT, true_and, and_true, pk_mul, xcpy_nI, hV]
    exact ⟨by omega, by omega, Nat.zero_le _, Nat.zero_le _, hq⟩
  · have e : undoE sv = 12 := by unfold undoE; rw [if_neg (by omega)]
    exact ⟨Nat.le_refl _, Nat.le_refl _, hX _ _ ⟨by rw [e]; decide, e.symm, rfl⟩⟩
def settingE (x : Int32) : Nat := if isSettingB x = false then 10 else 0
set_option maxRecDepth 100000 in
set_option maxHeartbeats 4000000 in
theorem ev_setting (d : Nat) (N : List Nat) (vs : List Value) (g : xH) (x : Int32) (hN : N.length = 18) :
    Ev xT (d + 2) N_B_setting [.ref 0, .int x] (hN1 N vs g) (Ro (settingE x) (some (.int (nI (N.getD (3 + x.toNatClampNeg) 0)))) (hN1 N vs g)) (Xo (settingE x) (hN1 N vs g)) := by
  refine Ev_intro t_B_setting (Nat.le_of_ble_eq_true rfl) ?_
  intro Q X hQ hX K hK
  show K 0 [some (.ref 0), some (.int x)] [] _ 0 0
  refine hK 0 _ _ _ _ _ _ _ _ rfl ?_
  dsimp only [k_B_setting_0, hN1, hB, wpI, xop, xcall, xli, xlj, xlf, xld, xla, xlg, xst, xst2, xc1, pI, pJ, pF, pD, pR, pA, p1, p0, xpop, xpush, xsm, xhas, xif, xic, xsw, xai, xal, xhi, xhv, xrf, xret, xrtl, xrtf, xrtd, xrta, xrtv, xfit, xnew, cond_true, cond_false, f40, f41, f42, f43, List.length_cons, List.length_nil, Nat.reduceAdd, Nat.reduceSub, Nat.reduceMul, Nat.reduceBEq, List.map_cons, List.map_nil, List.headD_cons, List.getElem?_cons_zero, List.getElem?_cons_succ, List.set_cons_zero, List.set_cons_succ]
  refine Ev_use (ev_isSetting _ x _) ?_
  dsimp only [hN1, hB, wpI, xop, xcall, xli, xlj, xlf, xld, xla, xlg, xst, xst2, xc1, pI, pJ, pF, pD, pR, pA, p1, p0, xpop, xpush, xsm, xhas, xif, xic, xsw, xai, xal, xhi, xhv, xrf, xret, xrtl, xrtf, xrtd, xrta, xrtv, xfit, xnew, cond_true, cond_false, f40, f41, f42, f43, List.length_cons, List.length_nil, Nat.reduceAdd, Nat.reduceSub, Nat.reduceMul, Nat.reduceBEq, List.map_cons, List.map_nil, List.headD_cons, List.getElem?_cons_zero, List.getElem?_cons_succ, List.set_cons_zero, List.set_cons_succ]
  rw [bI_0]
  refine ⟨fun z => ?_, fun z => ?_⟩
  · have hq := hQ _ _ ⟨by unfold settingE; rw [if_neg z], rfl, rfl⟩
    obtain ⟨r, hr, rfl⟩ := set_of (b_nf z)
    rw [n_cl (by omega)] at hq
    refine hK 1 _ _ _ _ _ _ _ _ rfl ?_
    dsimp only [k_B_setting_1, hN1, hB, wpI, xop, xcall, xli, xlj, xlf, xld, xla, xlg, xst, xst2, xc1, pI, pJ, pF, pD, pR, pA, p1, p0, xpop, xpush, xsm, xhas, xif, xic, xsw, xai, xal, xhi, xhv, xrf, xret, xrtl, xrtf, xrtd, xrta, xrtv, xfit, xnew, cond_true, cond_false, f40, f41, f42, f43, List.length_cons, List.length_nil, Nat.reduceAdd, Nat.reduceSub, Nat.reduceMul, Nat.reduceBEq, List.map_cons, List.map_nil, List.headD_cons, List.getElem?_cons_zero, List.getElem?_cons_succ, List.set_cons_zero, List.set_cons_succ]
    try simp (disch := first | omega | (simp only [List.length_set]; omega)) only [nI_add, n_and, n_or, n_xor, n_i31, nI_leI, nI_ltI, n_e0, n_eq, n_m1e, n_l0, n_g0, n_p0, n_q0, n_cl, n_in, n_sub, n_shr, n_shl, n_div, bI_0, n_01, n_11, bI_or, not_false_eq_true, forall_const, not_true_eq_false, false_imp_iff, true_imp_iff, List.length_map, List.length_set, hN, nL_u, gs_eq, gs_ne, nI_set, Nat.reduceLT, true_and, and_true, pk_mul]
    exact ⟨by omega, Nat.zero_le _, Nat.zero_le _, hq⟩
  · have e : settingE x = 10 := by unfold settingE; rw [if_pos z]
    exact ⟨Nat.le_refl _, Nat.le_refl _, hX _ _ ⟨by rw [e]; decide, e.symm, rfl⟩⟩
def whyE (x y : Int32) : Nat := if isRowB x = false then 10 else if y < nI 1 ∨ nI 5 < y then 11 else 0
set_option maxRecDepth 100000 in
set_option maxHeartbeats 4000000 in
theorem ev_why (d : Nat) (N : List Nat) (vs : List Value) (g : xH) (x y : Int32) (ok : stN N) :
    Ev xT (d + 4) N_B_why [.ref 0, .int x, .int y] (hN1 N vs g) (Ro (whyE x y) (some (.int (nI (rsnN N x.toNatClampNeg y.toNatClampNeg)))) (hN1 N vs g)) (Xo (whyE x y) (hN1 N vs g)) := by
  refine Ev_intro t_B_why (Nat.le_of_ble_eq_true rfl) ?_
  intro Q X hQ hX K hK
  show K 0 [some (.ref 0), some (.int x), some (.int y)] [] _ 0 0
  refine hK 0 _ _ _ _ _ _ _ _ rfl ?_
  dsimp only [k_B_why_0, hN1, hB, wpI, xop, xcall, xli, xlj, xlf, xld, xla, xlg, xst, xst2, xc1, pI, pJ, pF, pD, pR, pA, p1, p0, xpop, xpush, xsm, xhas, xif, xic, xsw, xai, xal, xhi, xhv, xrf, xret, xrtl, xrtf, xrtd, xrta, xrtv, xfit, xnew, cond_true, cond_false, f40, f41, f42, f43, List.length_cons, List.length_nil, Nat.reduceAdd, Nat.reduceSub, Nat.reduceMul, Nat.reduceBEq, List.map_cons, List.map_nil, List.headD_cons, List.getElem?_cons_zero, List.getElem?_cons_succ, List.set_cons_zero, List.set_cons_succ]
  refine Ev_use (ev_isRow _ x _) ?_
  dsimp only [hN1, hB, wpI, xop, xcall, xli, xlj, xlf, xld, xla, xlg, xst, xst2, xc1, pI, pJ, pF, pD, pR, pA, p1, p0, xpop, xpush, xsm, xhas, xif, xic, xsw, xai, xal, xhi, xhv, xrf, xret, xrtl, xrtf, xrtd, xrta, xrtv, xfit, xnew, cond_true, cond_false, f40, f41, f42, f43, List.length_cons, List.length_nil, Nat.reduceAdd, Nat.reduceSub, Nat.reduceMul, Nat.reduceBEq, List.map_cons, List.map_nil, List.headD_cons, List.getElem?_cons_zero, List.getElem?_cons_succ, List.set_cons_zero, List.set_cons_succ]
  rw [bI_0]
  refine ⟨fun z => ?_, fun z => ?_⟩
  · obtain ⟨r, hr, rfl⟩ := row_of (b_nf z)
    have f2 : y < nI 1 ∨ nI 5 < y → K 2 [some (.ref 0), some (.int (nI r)), some (.int y)] [] (hN1 N vs g) 0 0 := by
      intro z2
      have e : whyE (nI r) y = 11 := by unfold whyE; rw [if_neg z, if_pos z2]
      refine hK 2 _ _ _ _ _ _ _ _ rfl ?_
      dsimp only [k_B_why_2, hN1, hB, wpI, xop, xcall, xli, xlj, xlf, xld, xla, xlg, xst, xst2, xc1, pI, pJ, pF, pD, pR, pA, p1, p0, xpop, xpush, xsm, xhas, xif, xic, xsw, xai, xal, xhi, xhv, xrf, xret, xrtl, xrtf, xrtd, xrta, xrtv, xfit, xnew, cond_true, cond_false, f40, f41, f42, f43, List.length_cons, List.length_nil, Nat.reduceAdd, Nat.reduceSub, Nat.reduceMul, Nat.reduceBEq, List.map_cons, List.map_nil, List.headD_cons, List.getElem?_cons_zero, List.getElem?_cons_succ, List.set_cons_zero, List.set_cons_succ]
      exact ⟨Nat.le_refl _, Nat.le_refl _, hX _ _ ⟨by rw [e]; decide, e.symm, rfl⟩⟩
    refine hK 1 _ _ _ _ _ _ _ _ rfl ?_
    dsimp only [k_B_why_1, hN1, hB, wpI, xop, xcall, xli, xlj, xlf, xld, xla, xlg, xst, xst2, xc1, pI, pJ, pF, pD, pR, pA, p1, p0, xpop, xpush, xsm, xhas, xif, xic, xsw, xai, xal, xhi, xhv, xrf, xret, xrtl, xrtf, xrtd, xrta, xrtv, xfit, xnew, cond_true, cond_false, f40, f41, f42, f43, List.length_cons, List.length_nil, Nat.reduceAdd, Nat.reduceSub, Nat.reduceMul, Nat.reduceBEq, List.map_cons, List.map_nil, List.headD_cons, List.getElem?_cons_zero, List.getElem?_cons_succ, List.set_cons_zero, List.set_cons_succ]
    refine ⟨fun z2 => f2 (Or.inl z2), fun z2 => ⟨fun z3 => ?_, fun z3 => f2 (Or.inr (Int32.not_le.mp z3))⟩⟩
    have hq := hQ _ _ ⟨by
      unfold whyE
      rw [if_neg z, if_neg]
      rintro (q | q)
      · exact z2 q
      · exact Int32.not_lt.mpr z3 q, rfl, rfl⟩
    obtain ⟨b, hb, rfl⟩ := nI_of (show ¬ y < 0 from fun q => z2 (Int32.lt_trans q (by decide)))
    rw [nI_leI hb (by omega)] at z3
    rw [n_cl (by omega), n_cl (by omega)] at hq
    refine hK 3 _ _ _ _ _ _ _ _ rfl ?_
    dsimp only [k_B_why_3, hN1, hB, wpI, xop, xcall, xli, xlj, xlf, xld, xla, xlg, xst, xst2, xc1, pI, pJ, pF, pD, pR, pA, p1, p0, xpop, xpush, xsm, xhas, xif, xic, xsw, xai, xal, xhi, xhv, xrf, xret, xrtl, xrtf, xrtd, xrta, xrtv, xfit, xnew, cond_true, cond_false, f40, f41, f42, f43, List.length_cons, List.length_nil, Nat.reduceAdd, Nat.reduceSub, Nat.reduceMul, Nat.reduceBEq, List.map_cons, List.map_nil, List.headD_cons, List.getElem?_cons_zero, List.getElem?_cons_succ, List.set_cons_zero, List.set_cons_succ]
    refine Ev_use (ev_reasonAgainst _ N vs g r b ok hr (by omega)) ?_
    dsimp only [hN1, hB, wpI, xop, xcall, xli, xlj, xlf, xld, xla, xlg, xst, xst2, xc1, pI, pJ, pF, pD, pR, pA, p1, p0, xpop, xpush, xsm, xhas, xif, xic, xsw, xai, xal, xhi, xhv, xrf, xret, xrtl, xrtf, xrtd, xrta, xrtv, xfit, xnew, cond_true, cond_false, f40, f41, f42, f43, List.length_cons, List.length_nil, Nat.reduceAdd, Nat.reduceSub, Nat.reduceMul, Nat.reduceBEq, List.map_cons, List.map_nil, List.headD_cons, List.getElem?_cons_zero, List.getElem?_cons_succ, List.set_cons_zero, List.set_cons_succ]
    exact ⟨Nat.zero_le _, Nat.zero_le _, hq⟩
  · have e : whyE x y = 10 := by unfold whyE; rw [if_pos z]
    exact ⟨Nat.le_refl _, Nat.le_refl _, hX _ _ ⟨by rw [e]; decide, e.symm, rfl⟩⟩
set_option maxRecDepth 100000 in
set_option maxHeartbeats 4000000 in
theorem ev_falls (d : Nat) (N : List Nat) (vs : List Value) (g : xH) (x y : Int32) (ok : stN N) :
    Ev xT (d + 4) N_B_falls [.ref 0, .int x, .int y] (hN1 N vs g) (Ro (whyE x y) (some (.int (fallI (N.getD 0 0) (N.getD 1 0) x.toNatClampNeg y.toNatClampNeg))) (hN1 N vs g)) (Xo (whyE x y) (hN1 N vs g)) := by
  refine Ev_intro t_B_falls (Nat.le_of_ble_eq_true rfl) ?_
  intro Q X hQ hX K hK
  show K 0 [some (.ref 0), some (.int x), some (.int y)] [] _ 0 0
  obtain ⟨hN, h0, h1, h3, h3', h4, h5⟩ := ok
  refine hK 0 _ _ _ _ _ _ _ _ rfl ?_
  dsimp only [k_B_falls_0, hN1, hB, wpI, xop, xcall, xli, xlj, xlf, xld, xla, xlg, xst, xst2, xc1, pI, pJ, pF, pD, pR, pA, p1, p0, xpop, xpush, xsm, xhas, xif, xic, xsw, xai, xal, xhi, xhv, xrf, xret, xrtl, xrtf, xrtd, xrta, xrtv, xfit, xnew, cond_true, cond_false, f40, f41, f42, f43, List.length_cons, List.length_nil, Nat.reduceAdd, Nat.reduceSub, Nat.reduceMul, Nat.reduceBEq, List.map_cons, List.map_nil, List.headD_cons, List.getElem?_cons_zero, List.getElem?_cons_succ, List.set_cons_zero, List.set_cons_succ]
  refine Ev_use (ev_isRow _ x _) ?_
  dsimp only [hN1, hB, wpI, xop, xcall, xli, xlj, xlf, xld, xla, xlg, xst, xst2, xc1, pI, pJ, pF, pD, pR, pA, p1, p0, xpop, xpush, xsm, xhas, xif, xic, xsw, xai, xal, xhi, xhv, xrf, xret, xrtl, xrtf, xrtd, xrta, xrtv, xfit, xnew, cond_true, cond_false, f40, f41, f42, f43, List.length_cons, List.length_nil, Nat.reduceAdd, Nat.reduceSub, Nat.reduceMul, Nat.reduceBEq, List.map_cons, List.map_nil, List.headD_cons, List.getElem?_cons_zero, List.getElem?_cons_succ, List.set_cons_zero, List.set_cons_succ]
  rw [bI_0]
  refine ⟨fun z => ?_, fun z => ?_⟩
  · obtain ⟨r, hr, rfl⟩ := row_of (b_nf z)
    have f2 : y < nI 1 ∨ nI 5 < y → K 2 [some (.ref 0), some (.int (nI r)), some (.int y)] [] (hN1 N vs g) 0 0 := by
      intro z2
      have e : whyE (nI r) y = 11 := by unfold whyE; rw [if_neg z, if_pos z2]
      refine hK 2 _ _ _ _ _ _ _ _ rfl ?_
      dsimp only [k_B_falls_2, hN1, hB, wpI, xop, xcall, xli, xlj, xlf, xld, xla, xlg, xst, xst2, xc1, pI, pJ, pF, pD, pR, pA, p1, p0, xpop, xpush, xsm, xhas, xif, xic, xsw, xai, xal, xhi, xhv, xrf, xret, xrtl, xrtf, xrtd, xrta, xrtv, xfit, xnew, cond_true, cond_false, f40, f41, f42, f43, List.length_cons, List.length_nil, Nat.reduceAdd, Nat.reduceSub, Nat.reduceMul, Nat.reduceBEq, List.map_cons, List.map_nil, List.headD_cons, List.getElem?_cons_zero, List.getElem?_cons_succ, List.set_cons_zero, List.set_cons_succ]
      exact ⟨Nat.le_refl _, Nat.le_refl _, hX _ _ ⟨by rw [e]; decide, e.symm, rfl⟩⟩
    refine hK 1 _ _ _ _ _ _ _ _ rfl ?_
    dsimp only [k_B_falls_1, hN1, hB, wpI, xop, xcall, xli, xlj, xlf, xld, xla, xlg, xst, xst2, xc1, pI, pJ, pF, pD, pR, pA, p1, p0, xpop, xpush, xsm, xhas, xif, xic, xsw, xai, xal, xhi, xhv, xrf, xret, xrtl, xrtf, xrtd, xrta, xrtv, xfit, xnew, cond_true, cond_false, f40, f41, f42, f43, List.length_cons, List.length_nil, Nat.reduceAdd, Nat.reduceSub, Nat.reduceMul, Nat.reduceBEq, List.map_cons, List.map_nil, List.headD_cons, List.getElem?_cons_zero, List.getElem?_cons_succ, List.set_cons_zero, List.set_cons_succ]
    refine ⟨fun z2 => f2 (Or.inl z2), fun z2 => ⟨fun z3 => ?_, fun z3 => f2 (Or.inr (Int32.not_le.mp z3))⟩⟩
    have hq := hQ _ _ ⟨by
      unfold whyE
      rw [if_neg z, if_neg]
      rintro (q | q)
      · exact z2 q
      · exact Int32.not_lt.mpr z3 q, rfl, rfl⟩
    obtain ⟨b, hb, rfl⟩ := nI_of (show ¬ y < 0 from fun q => z2 (Int32.lt_trans q (by decide)))
    rw [nI_leI hb (by omega)] at z3
    rw [n_cl (by omega), n_cl (by omega)] at hq
    refine hK 3 _ _ _ _ _ _ _ _ rfl ?_
    dsimp only [k_B_falls_3, hN1, hB, wpI, xop, xcall, xli, xlj, xlf, xld, xla, xlg, xst, xst2, xc1, pI, pJ, pF, pD, pR, pA, p1, p0, xpop, xpush, xsm, xhas, xif, xic, xsw, xai, xal, xhi, xhv, xrf, xret, xrtl, xrtf, xrtd, xrta, xrtv, xfit, xnew, cond_true, cond_false, f40, f41, f42, f43, List.length_cons, List.length_nil, Nat.reduceAdd, Nat.reduceSub, Nat.reduceMul, Nat.reduceBEq, List.map_cons, List.map_nil, List.headD_cons, List.getElem?_cons_zero, List.getElem?_cons_succ, List.set_cons_zero, List.set_cons_succ]
    try simp (disch := first | omega | (simp only [List.length_set]; omega)) only [nI_add, n_and, n_or, n_xor, n_i31, nI_leI, nI_ltI, n_e0, n_eq, n_m1e, n_l0, n_g0, n_p0, n_q0, n_cl, n_in, n_sub, n_shr, n_shl, n_div, bI_0, n_01, n_11, bI_or, not_false_eq_true, forall_const, not_true_eq_false, false_imp_iff, true_imp_iff, List.length_map, List.length_set, hN, nL_u, gs_eq, gs_ne, nI_set, Nat.reduceLT, true_and, and_true, pk_mul]
    refine Ev_use (ev_fallenBy _ _ _ r b _ h0 h1 hr (by omega)) ?_
    dsimp only [hN1, hB, wpI, xop, xcall, xli, xlj, xlf, xld, xla, xlg, xst, xst2, xc1, pI, pJ, pF, pD, pR, pA, p1, p0, xpop, xpush, xsm, xhas, xif, xic, xsw, xai, xal, xhi, xhv, xrf, xret, xrtl, xrtf, xrtd, xrta, xrtv, xfit, xnew, cond_true, cond_false, f40, f41, f42, f43, List.length_cons, List.length_nil, Nat.reduceAdd, Nat.reduceSub, Nat.reduceMul, Nat.reduceBEq, List.map_cons, List.map_nil, List.headD_cons, List.getElem?_cons_zero, List.getElem?_cons_succ, List.set_cons_zero, List.set_cons_succ]
    exact ⟨Nat.zero_le _, Nat.zero_le _, hq⟩
  · have e : whyE x y = 10 := by unfold whyE; rw [if_pos z]
    exact ⟨Nat.le_refl _, Nat.le_refl _, hX _ _ ⟨by rw [e]; decide, e.symm, rfl⟩⟩
end
section
/-! ===== the class: row, count, the texts read ===== -/
def rowE (x w : Int32) : Nat := if isRowB x = false then 10 else if w = nI 0 ∨ w = nI 1 ∨ w = nI 2 ∨ w = nI 3 ∨ w = nI 4 ∨ w = nI 5 then 0 else 11
def rowR (N : List Nat) (r : Nat) (w : Int32) : Int32 := if w = nI 0 then nI (pop (bitsN (N.getD 0 0) r)) else if w = nI 1 then lowI (N.getD 0 0) r (5 - r) 0 else if w = nI 2 then highI (N.getD 0 0) r (5 - r) else
  if w = nI 3 then nI (grtN N r (N.getD 3 0)) else if w = nI 4 then nI (N.getD (6 + r) 0) else nI (N.getD (11 + r) 0)
set_option maxRecDepth 100000 in
set_option maxHeartbeats 4000000 in
theorem ev_row (d : Nat) (N : List Nat) (vs : List Value) (g : xH) (x w : Int32) (ok : stN N) :
    Ev xT (d + 5) N_B_row [.ref 0, .int x, .int w] (hN1 N vs g) (Ro (rowE x w) (some (.int (rowR N x.toNatClampNeg w))) (hN1 N vs g)) (Xo (rowE x w) (hN1 N vs g)) := by
  refine Ev_intro t_B_row (Nat.le_of_ble_eq_true rfl) ?_
  intro Q X hQ hX K hK
  show K 0 [some (.ref 0), some (.int x), some (.int w)] [] _ 0 0
  have ok' := ok
  obtain ⟨hN, h0, h1, h3, h3', h4, h5⟩ := ok
  refine hK 0 _ _ _ _ _ _ _ _ rfl ?_
  dsimp only [k_B_row_0, hN1, hB, wpI, xop, xcall, xli, xlj, xlf, xld, xla, xlg, xst, xst2, xc1, pI, pJ, pF, pD, pR, pA, p1, p0, xpop, xpush, xsm, xhas, xif, xic, xsw, xai, xal, xhi, xhv, xrf, xret, xrtl, xrtf, xrtd, xrta, xrtv, xfit, xnew, cond_true, cond_false, f40, f41, f42, f43, List.length_cons, List.length_nil, Nat.reduceAdd, Nat.reduceSub, Nat.reduceMul, Nat.reduceBEq, List.map_cons, List.map_nil, List.headD_cons, List.getElem?_cons_zero, List.getElem?_cons_succ, List.set_cons_zero, List.set_cons_succ]
  refine Ev_use (ev_isRow _ x _) ?_
  dsimp only [hN1, hB, wpI, xop, xcall, xli, xlj, xlf, xld, xla, xlg, xst, xst2, xc1, pI, pJ, pF, pD, pR, pA, p1, p0, xpop, xpush, xsm, xhas, xif, xic, xsw, xai, xal, xhi, xhv, xrf, xret, xrtl, xrtf, xrtd, xrta, xrtv, xfit, xnew, cond_true, cond_false, f40, f41, f42, f43, List.length_cons, List.length_nil, Nat.reduceAdd, Nat.reduceSub, Nat.reduceMul, Nat.reduceBEq, List.map_cons, List.map_nil, List.headD_cons, List.getElem?_cons_zero, List.getElem?_cons_succ, List.set_cons_zero, List.set_cons_succ]
  rw [bI_0]
  refine ⟨fun z => ?_, fun z => ?_⟩
  · obtain ⟨r, hr, rfl⟩ := row_of (b_nf z)
    have hq := fun e => hQ _ _ ⟨e, rfl, rfl⟩
    rw [n_cl (by omega)] at hq
    have e0 : w = nI 0 ∨ w = nI 1 ∨ w = nI 2 ∨ w = nI 3 ∨ w = nI 4 ∨ w = nI 5 → rowE (nI r) w = 0 := fun e => by unfold rowE; rw [if_neg z, if_pos e]
    refine hK 1 _ _ _ _ _ _ _ _ rfl ?_
    dsimp only [k_B_row_1, hN1, hB, wpI, xop, xcall, xli, xlj, xlf, xld, xla, xlg, xst, xst2, xc1, pI, pJ, pF, pD, pR, pA, p1, p0, xpop, xpush, xsm, xhas, xif, xic, xsw, xai, xal, xhi, xhv, xrf, xret, xrtl, xrtf, xrtd, xrta, xrtv, xfit, xnew, cond_true, cond_false, f40, f41, f42, f43, List.length_cons, List.length_nil, Nat.reduceAdd, Nat.reduceSub, Nat.reduceMul, Nat.reduceBEq, List.map_cons, List.map_nil, List.headD_cons, List.getElem?_cons_zero, List.getElem?_cons_succ, List.set_cons_zero, List.set_cons_succ, List.map]
    refine ⟨fun y => ?_, fun y0 => ⟨fun y => ?_, fun y1 => ⟨fun y => ?_, fun y2 => ⟨fun y => ?_, fun y3 => ⟨fun y => ?_, fun y4 => ⟨fun y => ?_, fun y5 => ?_⟩⟩⟩⟩⟩⟩
    · have hq := hq (e0 (Or.inl y))
      unfold rowR at hq
      rw [if_pos y] at hq
      refine hK 2 _ _ _ _ _ _ _ _ rfl ?_
      dsimp only [k_B_row_2, hN1, hB, wpI, xop, xcall, xli, xlj, xlf, xld, xla, xlg, xst, xst2, xc1, pI, pJ, pF, pD, pR, pA, p1, p0, xpop, xpush, xsm, xhas, xif, xic, xsw, xai, xal, xhi, xhv, xrf, xret, xrtl, xrtf, xrtd, xrta, xrtv, xfit, xnew, cond_true, cond_false, f40, f41, f42, f43, List.length_cons, List.length_nil, Nat.reduceAdd, Nat.reduceSub, Nat.reduceMul, Nat.reduceBEq, List.map_cons, List.map_nil, List.headD_cons, List.getElem?_cons_zero, List.getElem?_cons_succ, List.set_cons_zero, List.set_cons_succ]
      try simp (disch := first | omega | (simp only [List.length_set]; omega)) only [nI_add, n_and, n_or, n_xor, n_i31, nI_leI, nI_ltI, n_e0, n_eq, n_m1e, n_l0, n_g0, n_p0, n_q0, n_cl, n_in, n_sub, n_shr, n_shl, n_div, bI_0, n_01, n_11, bI_or, not_false_eq_true, forall_const, not_true_eq_false, false_imp_iff, true_imp_iff, List.length_map, List.length_set, hN, nL_u, gs_eq, gs_ne, nI_set, Nat.reduceLT, true_and, and_true, pk_mul]
      refine Ev_use (ev_bitsOf _ _ r _ h0 hr) ?_
      dsimp only [hN1, hB, wpI, xop, xcall, xli, xlj, xlf, xld, xla, xlg, xst, xst2, xc1, pI, pJ, pF, pD, pR, pA, p1, p0, xpop, xpush, xsm, xhas, xif, xic, xsw, xai, xal, xhi, xhv, xrf, xret, xrtl, xrtf, xrtd, xrta, xrtv, xfit, xnew, cond_true, cond_false, f40, f41, f42, f43, List.length_cons, List.length_nil, Nat.reduceAdd, Nat.reduceSub, Nat.reduceMul, Nat.reduceBEq, List.map_cons, List.map_nil, List.headD_cons, List.getElem?_cons_zero, List.getElem?_cons_succ, List.set_cons_zero, List.set_cons_succ]
      refine Ev_use (ev_bitCount _ _ _ (bitsN_lt (r := r) h0)) ?_
      dsimp only [hN1, hB, wpI, xop, xcall, xli, xlj, xlf, xld, xla, xlg, xst, xst2, xc1, pI, pJ, pF, pD, pR, pA, p1, p0, xpop, xpush, xsm, xhas, xif, xic, xsw, xai, xal, xhi, xhv, xrf, xret, xrtl, xrtf, xrtd, xrta, xrtv, xfit, xnew, cond_true, cond_false, f40, f41, f42, f43, List.length_cons, List.length_nil, Nat.reduceAdd, Nat.reduceSub, Nat.reduceMul, Nat.reduceBEq, List.map_cons, List.map_nil, List.headD_cons, List.getElem?_cons_zero, List.getElem?_cons_succ, List.set_cons_zero, List.set_cons_succ]
      exact ⟨Nat.zero_le _, Nat.zero_le _, hq⟩
    · have hq := hq (e0 (Or.inr (Or.inl y)))
      unfold rowR at hq
      rw [if_neg y0, if_pos y] at hq
      refine hK 3 _ _ _ _ _ _ _ _ rfl ?_
      dsimp only [k_B_row_3, hN1, hB, wpI, xop, xcall, xli, xlj, xlf, xld, xla, xlg, xst, xst2, xc1, pI, pJ, pF, pD, pR, pA, p1, p0, xpop, xpush, xsm, xhas, xif, xic, xsw, xai, xal, xhi, xhv, xrf, xret, xrtl, xrtf, xrtd, xrta, xrtv, xfit, xnew, cond_true, cond_false, f40, f41, f42, f43, List.length_cons, List.length_nil, Nat.reduceAdd, Nat.reduceSub, Nat.reduceMul, Nat.reduceBEq, List.map_cons, List.map_nil, List.headD_cons, List.getElem?_cons_zero, List.getElem?_cons_succ, List.set_cons_zero, List.set_cons_succ]
      refine Ev_use (ev_lowestPlace _ N vs g r ok' hr) ?_
      dsimp only [hN1, hB, wpI, xop, xcall, xli, xlj, xlf, xld, xla, xlg, xst, xst2, xc1, pI, pJ, pF, pD, pR, pA, p1, p0, xpop, xpush, xsm, xhas, xif, xic, xsw, xai, xal, xhi, xhv, xrf, xret, xrtl, xrtf, xrtd, xrta, xrtv, xfit, xnew, cond_true, cond_false, f40, f41, f42, f43, List.length_cons, List.length_nil, Nat.reduceAdd, Nat.reduceSub, Nat.reduceMul, Nat.reduceBEq, List.map_cons, List.map_nil, List.headD_cons, List.getElem?_cons_zero, List.getElem?_cons_succ, List.set_cons_zero, List.set_cons_succ]
      exact ⟨Nat.zero_le _, Nat.zero_le _, hq⟩
    · have hq := hq (e0 (Or.inr (Or.inr (Or.inl y))))
      unfold rowR at hq
      rw [if_neg y0, if_neg y1, if_pos y] at hq
      refine hK 4 _ _ _ _ _ _ _ _ rfl ?_
      dsimp only [k_B_row_4, hN1, hB, wpI, xop, xcall, xli, xlj, xlf, xld, xla, xlg, xst, xst2, xc1, pI, pJ, pF, pD, pR, pA, p1, p0, xpop, xpush, xsm, xhas, xif, xic, xsw, xai, xal, xhi, xhv, xrf, xret, xrtl, xrtf, xrtd, xrta, xrtv, xfit, xnew, cond_true, cond_false, f40, f41, f42, f43, List.length_cons, List.length_nil, Nat.reduceAdd, Nat.reduceSub, Nat.reduceMul, Nat.reduceBEq, List.map_cons, List.map_nil, List.headD_cons, List.getElem?_cons_zero, List.getElem?_cons_succ, List.set_cons_zero, List.set_cons_succ]
      refine Ev_use (ev_highestPlace _ N vs g r ok' hr) ?_
      dsimp only [hN1, hB, wpI, xop, xcall, xli, xlj, xlf, xld, xla, xlg, xst, xst2, xc1, pI, pJ, pF, pD, pR, pA, p1, p0, xpop, xpush, xsm, xhas, xif, xic, xsw, xai, xal, xhi, xhv, xrf, xret, xrtl, xrtf, xrtd, xrta, xrtv, xfit, xnew, cond_true, cond_false, f40, f41, f42, f43, List.length_cons, List.length_nil, Nat.reduceAdd, Nat.reduceSub, Nat.reduceMul, Nat.reduceBEq, List.map_cons, List.map_nil, List.headD_cons, List.getElem?_cons_zero, List.getElem?_cons_succ, List.set_cons_zero, List.set_cons_succ]
      exact ⟨Nat.zero_le _, Nat.zero_le _, hq⟩
    · have hq := hq (e0 (Or.inr (Or.inr (Or.inr (Or.inl y)))))
      unfold rowR at hq
      rw [if_neg y0, if_neg y1, if_neg y2, if_pos y] at hq
      refine hK 5 _ _ _ _ _ _ _ _ rfl ?_
      dsimp only [k_B_row_5, hN1, hB, wpI, xop, xcall, xli, xlj, xlf, xld, xla, xlg, xst, xst2, xc1, pI, pJ, pF, pD, pR, pA, p1, p0, xpop, xpush, xsm, xhas, xif, xic, xsw, xai, xal, xhi, xhv, xrf, xret, xrtl, xrtf, xrtd, xrta, xrtv, xfit, xnew, cond_true, cond_false, f40, f41, f42, f43, List.length_cons, List.length_nil, Nat.reduceAdd, Nat.reduceSub, Nat.reduceMul, Nat.reduceBEq, List.map_cons, List.map_nil, List.headD_cons, List.getElem?_cons_zero, List.getElem?_cons_succ, List.set_cons_zero, List.set_cons_succ]
      refine Ev_use (ev_greatestTheft _ N vs g r ok' hr) ?_
      dsimp only [hN1, hB, wpI, xop, xcall, xli, xlj, xlf, xld, xla, xlg, xst, xst2, xc1, pI, pJ, pF, pD, pR, pA, p1, p0, xpop, xpush, xsm, xhas, xif, xic, xsw, xai, xal, xhi, xhv, xrf, xret, xrtl, xrtf, xrtd, xrta, xrtv, xfit, xnew, cond_true, cond_false, f40, f41, f42, f43, List.length_cons, List.length_nil, Nat.reduceAdd, Nat.reduceSub, Nat.reduceMul, Nat.reduceBEq, List.map_cons, List.map_nil, List.headD_cons, List.getElem?_cons_zero, List.getElem?_cons_succ, List.set_cons_zero, List.set_cons_succ]
      exact ⟨Nat.zero_le _, Nat.zero_le _, hq⟩
    · have hq := hq (e0 (Or.inr (Or.inr (Or.inr (Or.inr (Or.inl y))))))
      unfold rowR at hq
      rw [if_neg y0, if_neg y1, if_neg y2, if_neg y3, if_pos y] at hq
      refine hK 6 _ _ _ _ _ _ _ _ rfl ?_
      dsimp only [k_B_row_6, hN1, hB, wpI, xop, xcall, xli, xlj, xlf, xld, xla, xlg, xst, xst2, xc1, pI, pJ, pF, pD, pR, pA, p1, p0, xpop, xpush, xsm, xhas, xif, xic, xsw, xai, xal, xhi, xhv, xrf, xret, xrtl, xrtf, xrtd, xrta, xrtv, xfit, xnew, cond_true, cond_false, f40, f41, f42, f43, List.length_cons, List.length_nil, Nat.reduceAdd, Nat.reduceSub, Nat.reduceMul, Nat.reduceBEq, List.map_cons, List.map_nil, List.headD_cons, List.getElem?_cons_zero, List.getElem?_cons_succ, List.set_cons_zero, List.set_cons_succ]
      try simp (disch := first | omega | (simp only [List.length_set]; omega)) only [nI_add, n_and, n_or, n_xor, n_i31, nI_leI, nI_ltI, n_e0, n_eq, n_m1e, n_l0, n_g0, n_p0, n_q0, n_cl, n_in, n_sub, n_shr, n_shl, n_div, bI_0, n_01, n_11, bI_or, not_false_eq_true, forall_const, not_true_eq_false, false_imp_iff, true_imp_iff, List.length_map, List.length_set, hN, nL_u, gs_eq, gs_ne, nI_set, Nat.reduceLT, true_and, and_true, pk_mul]
      exact ⟨by omega, Nat.zero_le _, Nat.zero_le _, hq⟩
    · have hq := hq (e0 (Or.inr (Or.inr (Or.inr (Or.inr (Or.inr y))))))
      unfold rowR at hq
      rw [if_neg y0, if_neg y1, if_neg y2, if_neg y3, if_neg y4] at hq
      refine hK 7 _ _ _ _ _ _ _ _ rfl ?_
      dsimp only [k_B_row_7, hN1, hB, wpI, xop, xcall, xli, xlj, xlf, xld, xla, xlg, xst, xst2, xc1, pI, pJ, pF, pD, pR, pA, p1, p0, xpop, xpush, xsm, xhas, xif, xic, xsw, xai, xal, xhi, xhv, xrf, xret, xrtl, xrtf, xrtd, xrta, xrtv, xfit, xnew, cond_true, cond_false, f40, f41, f42, f43, List.length_cons, List.length_nil, Nat.reduceAdd, Nat.reduceSub, Nat.reduceMul, Nat.reduceBEq, List.map_cons, List.map_nil, List.headD_cons, List.getElem?_cons_zero, List.getElem?_cons_succ, List.set_cons_zero, List.set_cons_succ]
      try simp (disch := first | omega | (simp only [List.length_set]; omega)) only [nI_add, n_and, n_or, n_xor, n_i31, nI_leI, nI_ltI, n_e0, n_eq, n_m1e, n_l0, n_g0, n_p0, n_q0, n_cl, n_in, n_sub, n_shr, n_shl, n_div, bI_0, n_01, n_11, bI_or, not_false_eq_true, forall_const, not_true_eq_false, false_imp_iff, true_imp_iff, List.length_map, List.length_set, hN, nL_u, gs_eq, gs_ne, nI_set, Nat.reduceLT, true_and, and_true, pk_mul]
      exact ⟨by omega, Nat.zero_le _, Nat.zero_le _, hq⟩
    · have e : rowE (nI r) w = 11 := by
        unfold rowE
        rw [if_neg z, if_neg]
        rintro (q | q | q | q | q | q)
        · exact y0 q
        · exact y1 q
        · exact y2 q
        · exact y3 q
        · exact y4 q
        · exact y5 q
      refine hK 8 _ _ _ _ _ _ _ _ rfl ?_
      dsimp only [k_B_row_8, hN1, hB, wpI, xop, xcall, xli, xlj, xlf, xld, xla, xlg, xst, xst2, xc1, pI, pJ, pF, pD, pR, pA, p1, p0, xpop, xpush, xsm, xhas, xif, xic, xsw, xai, xal, xhi, xhv, xrf, xret, xrtl, xrtf, xrtd, xrta, xrtv, xfit, xnew, cond_true, cond_false, f40, f41, f42, f43, List.length_cons, List.length_nil, Nat.reduceAdd, Nat.reduceSub, Nat.reduceMul, Nat.reduceBEq, List.map_cons, List.map_nil, List.headD_cons, List.getElem?_cons_zero, List.getElem?_cons_succ, List.set_cons_zero, List.set_cons_succ]
      exact ⟨Nat.le_refl _, Nat.le_refl _, hX _ _ ⟨by rw [e]; decide, e.symm, rfl⟩⟩
  · have e : rowE x w = 10 := by unfold rowE; rw [if_pos z]
    exact ⟨Nat.le_refl _, Nat.le_refl _, hX _ _ ⟨by rw [e]; decide, e.symm, rfl⟩⟩
def cntE (w : Int32) : Nat := if w = nI 0 ∨ w = nI 1 ∨ w = nI 2 ∨ w = nI 3 ∨ w = nI 4 ∨ w = nI 5 ∨ w = nI 6 ∨ w = nI 7 ∨ w = nI 8 ∨ w = nI 9 then 0 else 11
def cntR (N : List Nat) (sv : Nat) (w : Int32) : Int32 := if w = nI 0 then nI (N.getD 0 0) else if w = nI 1 then nI (pop (N.getD 0 0)) else if w = nI 2 then nI (N.getD 1 0) else if w = nI 3 then nI (N.getD 16 0) else
  if w = nI 4 then nI (N.getD 17 0) else if w = nI 5 then nI (brkS N 5 0 0) else if w = nI 6 then nI (N.getD 2 0) else if w = nI 7 then nI (ptR N 5 0 0) else if w = nI 8 then winI N else nI sv
set_option maxRecDepth 100000 in
set_option maxHeartbeats 4000000 in
theorem ev_count (d : Nat) (N V S C : List Nat) (P : List Value) (sv tl : Nat) (has : Bool) (g : xH) (w : Int32) (ok : stN N) :
    Ev xT (d + 6) N_B_count [.ref 0, .int w] (hB N V S C P sv tl has g) (Ro (cntE w) (some (.int (cntR N sv w))) (hB N V S C P sv tl has g)) (Xo (cntE w) (hB N V S C P sv tl has g)) := by
  refine Ev_intro t_B_count (Nat.le_of_ble_eq_true rfl) ?_
  intro Q X hQ hX K hK
  show K 0 [some (.ref 0), some (.int w)] [] _ 0 0
  have ok' := ok
  obtain ⟨hN, h0, h1, h3, h3', h4, h5⟩ := ok
  have hq := fun e => hQ _ _ ⟨e, rfl, rfl⟩
  unfold cntR at hq
  have e0 : w = nI 0 ∨ w = nI 1 ∨ w = nI 2 ∨ w = nI 3 ∨ w = nI 4 ∨ w = nI 5 ∨ w = nI 6 ∨ w = nI 7 ∨ w = nI 8 ∨ w = nI 9 → cntE w = 0 := fun e => by unfold cntE; rw [if_pos e]
  refine hK 0 _ _ _ _ _ _ _ _ rfl ?_
  dsimp only [k_B_count_0, hN1, hB, wpI, xop, xcall, xli, xlj, xlf, xld, xla, xlg, xst, xst2, xc1, pI, pJ, pF, pD, pR, pA, p1, p0, xpop, xpush, xsm, xhas, xif, xic, xsw, xai, xal, xhi, xhv, xrf, xret, xrtl, xrtf, xrtd, xrta, xrtv, xfit, xnew, cond_true, cond_false, f40, f41, f42, f43, List.length_cons, List.length_nil, Nat.reduceAdd, Nat.reduceSub, Nat.reduceMul, Nat.reduceBEq, List.map_cons, List.map_nil, List.headD_cons, List.getElem?_cons_zero, List.getElem?_cons_succ, List.set_cons_zero, List.set_cons_succ, List.map]
  refine ⟨fun y => ?_, fun y0 => ⟨fun y => ?_, fun y1 => ⟨fun y => ?_, fun y2 => ⟨fun y => ?_, fun y3 => ⟨fun y => ?_, fun y4 => ⟨fun y => ?_, fun y5 => ⟨fun y => ?_, fun y6 => ⟨fun y => ?_, fun y7 => ⟨fun y => ?_, fun y8 => ⟨fun y => ?_, fun y9 => ?_⟩⟩⟩⟩⟩⟩⟩⟩⟩⟩
  · have hq := hq (e0 (Or.inl y))
    rw [if_pos y] at hq
    refine hK 1 _ _ _ _ _ _ _ _ rfl ?_
    dsimp only [k_B_count_1, hN1, hB, wpI, xop, xcall, xli, xlj, xlf, xld, xla, xlg, xst, xst2, xc1, pI, pJ, pF, pD, pR, pA, p1, p0, xpop, xpush, xsm, xhas, xif, xic, xsw, xai, xal, xhi, xhv, xrf, xret, xrtl, xrtf, xrtd, xrta, xrtv, xfit, xnew, cond_true, cond_false, f40, f41, f42, f43, List.length_cons, List.length_nil, Nat.reduceAdd, Nat.reduceSub, Nat.reduceMul, Nat.reduceBEq, List.map_cons, List.map_nil, List.headD_cons, List.getElem?_cons_zero, List.getElem?_cons_succ, List.set_cons_zero, List.set_cons_succ]
    try simp (disch := first | omega | (simp only [List.length_set]; omega)) only [nI_add, n_and, n_or, n_xor, n_i31, nI_leI, nI_ltI, n_e0, n_eq, n_m1e, n_l0, n_g0, n_p0, n_q0, n_cl, n_in, n_sub, n_shr, n_shl, n_div, bI_0, n_01, n_11, bI_or, not_false_eq_true, forall_const, not_true_eq_false, false_imp_iff, true_imp_iff, List.length_map, List.length_set, hN, nL_u, gs_eq, gs_ne, nI_set, Nat.reduceLT, true_and, and_true, pk_mul]
    exact ⟨Nat.zero_le _, Nat.zero_le _, hq⟩
  · have hq := hq (e0 (Or.inr (Or.inl y)))
    rw [if_neg y0, if_pos y] at hq
    refine hK 2 _ _ _ _ _ _ _ _ rfl ?_
    dsimp only [k_B_count_2, hN1, hB, wpI, xop, xcall, xli, xlj, xlf, xld, xla, xlg, xst, xst2, xc1, pI, pJ, pF, pD, pR, pA, p1, p0, xpop, xpush, xsm, xhas, xif, xic, xsw, xai, xal, xhi, xhv, xrf, xret, xrtl, xrtf, xrtd, xrta, xrtv, xfit, xnew, cond_true, cond_false, f40, f41, f42, f43, List.length_cons, List.length_nil, Nat.reduceAdd, Nat.reduceSub, Nat.reduceMul, Nat.reduceBEq, List.map_cons, List.map_nil, List.headD_cons, List.getElem?_cons_zero, List.getElem?_cons_succ, List.set_cons_zero, List.set_cons_succ]
    try simp (disch := first | omega | (simp only [List.length_set]; omega)) only [nI_add, n_and, n_or, n_xor, n_i31, nI_leI, nI_ltI, n_e0, n_eq, n_m1e, n_l0, n_g0, n_p0, n_q0, n_cl, n_in, n_sub, n_shr, n_shl, n_div, bI_0, n_01, n_11, bI_or, not_false_eq_true, forall_const, not_true_eq_false, false_imp_iff, true_imp_iff, List.length_map, List.length_set, hN, nL_u, gs_eq, gs_ne, nI_set, Nat.reduceLT, true_and, and_true, pk_mul]
    refine Ev_use (ev_bitCount _ _ _ h0) ?_
    dsimp only [hN1, hB, wpI, xop, xcall, xli, xlj, xlf, xld, xla, xlg, xst, xst2, xc1, pI, pJ, pF, pD, pR, pA, p1, p0, xpop, xpush, xsm, xhas, xif, xic, xsw, xai, xal, xhi, xhv, xrf, xret, xrtl, xrtf, xrtd, xrta, xrtv, xfit, xnew, cond_true, cond_false, f40, f41, f42, f43, List.length_cons, List.length_nil, Nat.reduceAdd, Nat.reduceSub, Nat.reduceMul, Nat.reduceBEq, List.map_cons, List.map_nil, List.headD_cons, List.getElem?_cons_zero, List.getElem?_cons_succ, List.set_cons_zero, List.set_cons_succ]
    exact ⟨Nat.zero_le _, Nat.zero_le _, hq⟩
  · have hq := hq (e0 (Or.inr (Or.inr (Or.inl y))))
    rw [if_neg y0, if_neg y1, if_pos y] at hq
    refine hK 3 _ _ _ _ _ _ _ _ rfl ?_
    dsimp only [k_B_count_3, hN1, hB, wpI, xop, xcall, xli, xlj, xlf, xld, xla, xlg, xst, xst2, xc1, pI, pJ, pF, pD, pR, pA, p1, p0, xpop, xpush, xsm, xhas, xif, xic, xsw, xai, xal, xhi, xhv, xrf, xret, xrtl, xrtf, xrtd, xrta, xrtv, xfit, xnew, cond_true, cond_false, f40, f41, f42, f43, List.length_cons, List.length_nil, Nat.reduceAdd, Nat.reduceSub, Nat.reduceMul, Nat.reduceBEq, List.map_cons, List.map_nil, List.headD_cons, List.getElem?_cons_zero, List.getElem?_cons_succ, List.set_cons_zero, List.set_cons_succ]
    try simp (disch := first | omega | (simp only [List.length_set]; omega)) only [nI_add, n_and, n_or, n_xor, n_i31, nI_leI, nI_ltI, n_e0, n_eq, n_m1e, n_l0, n_g0, n_p0, n_q0, n_cl, n_in, n_sub, n_shr, n_shl, n_div, bI_0, n_01, n_11, bI_or, not_false_eq_true, forall_const, not_true_eq_false, false_imp_iff, true_imp_iff, List.length_map, List.length_set, hN, nL_u, gs_eq, gs_ne, nI_set, Nat.reduceLT, true_and, and_true, pk_mul]
    exact ⟨Nat.zero_le _, Nat.zero_le _, hq⟩
  · have hq := hq (e0 (Or.inr (Or.inr (Or.inr (Or.inl y)))))
    rw [if_neg y0, if_neg y1, if_neg y2, if_pos y] at hq
    refine hK 4 _ _ _ _ _ _ _ _ rfl ?_
    dsimp only [k_B_count_4, hN1, hB, wpI, xop, xcall, xli, xlj, xlf, xld, xla, xlg, xst, xst2, xc1, pI, pJ, pF, pD, pR, pA, p1, p0, xpop, xpush, xsm, xhas, xif, xic, xsw, xai, xal, xhi, xhv, xrf, xret, xrtl, xrtf, xrtd, xrta, xrtv, xfit, xnew, cond_true, cond_false, f40, f41, f42, f43, List.length_cons, List.length_nil, Nat.reduceAdd, Nat.reduceSub, Nat.reduceMul, Nat.reduceBEq, List.map_cons, List.map_nil, List.headD_cons, List.getElem?_cons_zero, List.getElem?_cons_succ, List.set_cons_zero, List.set_cons_succ]
    try simp (disch := first | omega | (simp only [List.length_set]; omega)) only [nI_add, n_and, n_or, n_xor, n_i31, nI_leI, nI_ltI, n_e0, n_eq, n_m1e, n_l0, n_g0, n_p0, n_q0, n_cl, n_in, n_sub, n_shr, n_shl, n_div, bI_0, n_01, n_11, bI_or, not_false_eq_true, forall_const, not_true_eq_false, false_imp_iff, true_imp_iff, List.length_map, List.length_set, hN, nL_u, gs_eq, gs_ne, nI_set, Nat.reduceLT, true_and, and_true, pk_mul]
    exact ⟨Nat.zero_le _, Nat.zero_le _, hq⟩
  · have hq := hq (e0 (Or.inr (Or.inr (Or.inr (Or.inr (Or.inl y))))))
    rw [if_neg y0, if_neg y1, if_neg y2, if_neg y3, if_pos y] at hq
    refine hK 5 _ _ _ _ _ _ _ _ rfl ?_
    dsimp only [k_B_count_5, hN1, hB, wpI, xop, xcall, xli, xlj, xlf, xld, xla, xlg, xst, xst2, xc1, pI, pJ, pF, pD, pR, pA, p1, p0, xpop, xpush, xsm, xhas, xif, xic, xsw, xai, xal, xhi, xhv, xrf, xret, xrtl, xrtf, xrtd, xrta, xrtv, xfit, xnew, cond_true, cond_false, f40, f41, f42, f43, List.length_cons, List.length_nil, Nat.reduceAdd, Nat.reduceSub, Nat.reduceMul, Nat.reduceBEq, List.map_cons, List.map_nil, List.headD_cons, List.getElem?_cons_zero, List.getElem?_cons_succ, List.set_cons_zero, List.set_cons_succ]
    try simp (disch := first | omega | (simp only [List.length_set]; omega)) only [nI_add, n_and, n_or, n_xor, n_i31, nI_leI, nI_ltI, n_e0, n_eq, n_m1e, n_l0, n_g0, n_p0, n_q0, n_cl, n_in, n_sub, n_shr, n_shl, n_div, bI_0, n_01, n_11, bI_or, not_false_eq_true, forall_const, not_true_eq_false, false_imp_iff, true_imp_iff, List.length_map, List.length_set, hN, nL_u, gs_eq, gs_ne, nI_set, Nat.reduceLT, true_and, and_true, pk_mul]
    exact ⟨Nat.zero_le _, Nat.zero_le _, hq⟩
  · have hq := hq (e0 (Or.inr (Or.inr (Or.inr (Or.inr (Or.inr (Or.inl y)))))))
    rw [if_neg y0, if_neg y1, if_neg y2, if_neg y3, if_neg y4, if_pos y] at hq
    refine hK 6 _ _ _ _ _ _ _ _ rfl ?_
    dsimp only [k_B_count_6, hN1, hB, wpI, xop, xcall, xli, xlj, xlf, xld, xla, xlg, xst, xst2, xc1, pI, pJ, pF, pD, pR, pA, p1, p0, xpop, xpush, xsm, xhas, xif, xic, xsw, xai, xal, xhi, xhv, xrf, xret, xrtl, xrtf, xrtd, xrta, xrtv, xfit, xnew, cond_true, cond_false, f40, f41, f42, f43, List.length_cons, List.length_nil, Nat.reduceAdd, Nat.reduceSub, Nat.reduceMul, Nat.reduceBEq, List.map_cons, List.map_nil, List.headD_cons, List.getElem?_cons_zero, List.getElem?_cons_succ, List.set_cons_zero, List.set_cons_succ]
    refine Ev_use (ev_brokenInAll _ N _ _ hN) ?_
    dsimp only [hN1, hB, wpI, xop, xcall, xli, xlj, xlf, xld, xla, xlg, xst, xst2, xc1, pI, pJ, pF, pD, pR, pA, p1, p0, xpop, xpush, xsm, xhas, xif, xic, xsw, xai, xal, xhi, xhv, xrf, xret, xrtl, xrtf, xrtd, xrta, xrtv, xfit, xnew, cond_true, cond_false, f40, f41, f42, f43, List.length_cons, List.length_nil, Nat.reduceAdd, Nat.reduceSub, Nat.reduceMul, Nat.reduceBEq, List.map_cons, List.map_nil, List.headD_cons, List.getElem?_cons_zero, List.getElem?_cons_succ, List.set_cons_zero, List.set_cons_succ]
    exact ⟨Nat.zero_le _, Nat.zero_le _, hq⟩
  · have hq := hq (e0 (Or.inr (Or.inr (Or.inr (Or.inr (Or.inr (Or.inr (Or.inl y))))))))
    rw [if_neg y0, if_neg y1, if_neg y2, if_neg y3, if_neg y4, if_neg y5, if_pos y] at hq
    refine hK 7 _ _ _ _ _ _ _ _ rfl ?_
    dsimp only [k_B_count_7, hN1, hB, wpI, xop, xcall, xli, xlj, xlf, xld, xla, xlg, xst, xst2, xc1, pI, pJ, pF, pD, pR, pA, p1, p0, xpop, xpush, xsm, xhas, xif, xic, xsw, xai, xal, xhi, xhv, xrf, xret, xrtl, xrtf, xrtd, xrta, xrtv, xfit, xnew, cond_true, cond_false, f40, f41, f42, f43, List.length_cons, List.length_nil, Nat.reduceAdd, Nat.reduceSub, Nat.reduceMul, Nat.reduceBEq, List.map_cons, List.map_nil, List.headD_cons, List.getElem?_cons_zero, List.getElem?_cons_succ, List.set_cons_zero, List.set_cons_succ]
    try simp (disch := first | omega | (simp only [List.length_set]; omega)) only [nI_add, n_and, n_or, n_xor, n_i31, nI_leI, nI_ltI, n_e0, n_eq, n_m1e, n_l0, n_g0, n_p0, n_q0, n_cl, n_in, n_sub, n_shr, n_shl, n_div, bI_0, n_01, n_11, bI_or, not_false_eq_true, forall_const, not_true_eq_false, false_imp_iff, true_imp_iff, List.length_map, List.length_set, hN, nL_u, gs_eq, gs_ne, nI_set, Nat.reduceLT, true_and, and_true, pk_mul]
    exact ⟨Nat.zero_le _, Nat.zero_le _, hq⟩
  · have hq := hq (e0 (Or.inr (Or.inr (Or.inr (Or.inr (Or.inr (Or.inr (Or.inr (Or.inl y)))))))))
    rw [if_neg y0, if_neg y1, if_neg y2, if_neg y3, if_neg y4, if_neg y5, if_neg y6, if_pos y] at hq
    refine hK 8 _ _ _ _ _ _ _ _ rfl ?_
    dsimp only [k_B_count_8, hN1, hB, wpI, xop, xcall, xli, xlj, xlf, xld, xla, xlg, xst, xst2, xc1, pI, pJ, pF, pD, pR, pA, p1, p0, xpop, xpush, xsm, xhas, xif, xic, xsw, xai, xal, xhi, xhv, xrf, xret, xrtl, xrtf, xrtd, xrta, xrtv, xfit, xnew, cond_true, cond_false, f40, f41, f42, f43, List.length_cons, List.length_nil, Nat.reduceAdd, Nat.reduceSub, Nat.reduceMul, Nat.reduceBEq, List.map_cons, List.map_nil, List.headD_cons, List.getElem?_cons_zero, List.getElem?_cons_succ, List.set_cons_zero, List.set_cons_succ]
    refine Ev_use (ev_possibleThefts _ N _ _ ok') ?_
    dsimp only [hN1, hB, wpI, xop, xcall, xli, xlj, xlf, xld, xla, xlg, xst, xst2, xc1, pI, pJ, pF, pD, pR, pA, p1, p0, xpop, xpush, xsm, xhas, xif, xic, xsw, xai, xal, xhi, xhv, xrf, xret, xrtl, xrtf, xrtd, xrta, xrtv, xfit, xnew, cond_true, cond_false, f40, f41, f42, f43, List.length_cons, List.length_nil, Nat.reduceAdd, Nat.reduceSub, Nat.reduceMul, Nat.reduceBEq, List.map_cons, List.map_nil, List.headD_cons, List.getElem?_cons_zero, List.getElem?_cons_succ, List.set_cons_zero, List.set_cons_succ]
    exact ⟨Nat.zero_le _, Nat.zero_le _, hq⟩
  · have hq := hq (e0 (Or.inr (Or.inr (Or.inr (Or.inr (Or.inr (Or.inr (Or.inr (Or.inr (Or.inl y))))))))))
    rw [if_neg y0, if_neg y1, if_neg y2, if_neg y3, if_neg y4, if_neg y5, if_neg y6, if_neg y7, if_pos y] at hq
    refine hK 9 _ _ _ _ _ _ _ _ rfl ?_
    dsimp only [k_B_count_9, hN1, hB, wpI, xop, xcall, xli, xlj, xlf, xld, xla, xlg, xst, xst2, xc1, pI, pJ, pF, pD, pR, pA, p1, p0, xpop, xpush, xsm, xhas, xif, xic, xsw, xai, xal, xhi, xhv, xrf, xret, xrtl, xrtf, xrtd, xrta, xrtv, xfit, xnew, cond_true, cond_false, f40, f41, f42, f43, List.length_cons, List.length_nil, Nat.reduceAdd, Nat.reduceSub, Nat.reduceMul, Nat.reduceBEq, List.map_cons, List.map_nil, List.headD_cons, List.getElem?_cons_zero, List.getElem?_cons_succ, List.set_cons_zero, List.set_cons_succ]
    refine Ev_use (ev_winner _ N _ _ ok') ?_
    dsimp only [hN1, hB, wpI, xop, xcall, xli, xlj, xlf, xld, xla, xlg, xst, xst2, xc1, pI, pJ, pF, pD, pR, pA, p1, p0, xpop, xpush, xsm, xhas, xif, xic, xsw, xai, xal, xhi, xhv, xrf, xret, xrtl, xrtf, xrtd, xrta, xrtv, xfit, xnew, cond_true, cond_false, f40, f41, f42, f43, List.length_cons, List.length_nil, Nat.reduceAdd, Nat.reduceSub, Nat.reduceMul, Nat.reduceBEq, List.map_cons, List.map_nil, List.headD_cons, List.getElem?_cons_zero, List.getElem?_cons_succ, List.set_cons_zero, List.set_cons_succ]
    exact ⟨Nat.zero_le _, Nat.zero_le _, hq⟩
  · have hq := hq (e0 (Or.inr (Or.inr (Or.inr (Or.inr (Or.inr (Or.inr (Or.inr (Or.inr (Or.inr y))))))))))
    rw [if_neg y0, if_neg y1, if_neg y2, if_neg y3, if_neg y4, if_neg y5, if_neg y6, if_neg y7, if_neg y8] at hq
    refine hK 10 _ _ _ _ _ _ _ _ rfl ?_
    dsimp only [k_B_count_10, hN1, hB, wpI, xop, xcall, xli, xlj, xlf, xld, xla, xlg, xst, xst2, xc1, pI, pJ, pF, pD, pR, pA, p1, p0, xpop, xpush, xsm, xhas, xif, xic, xsw, xai, xal, xhi, xhv, xrf, xret, xrtl, xrtf, xrtd, xrta, xrtv, xfit, xnew, cond_true, cond_false, f40, f41, f42, f43, List.length_cons, List.length_nil, Nat.reduceAdd, Nat.reduceSub, Nat.reduceMul, Nat.reduceBEq, List.map_cons, List.map_nil, List.headD_cons, List.getElem?_cons_zero, List.getElem?_cons_succ, List.set_cons_zero, List.set_cons_succ]
    exact ⟨Nat.zero_le _, Nat.zero_le _, hq⟩
  · have e : cntE w = 11 := by
      unfold cntE
      rw [if_neg]
      rintro (q | q | q | q | q | q | q | q | q | q)
      · exact y0 q
      · exact y1 q
      · exact y2 q
      · exact y3 q
      · exact y4 q
      · exact y5 q
      · exact y6 q
      · exact y7 q
      · exact y8 q
      · exact y9 q
    refine hK 11 _ _ _ _ _ _ _ _ rfl ?_
    dsimp only [k_B_count_11, hN1, hB, wpI, xop, xcall, xli, xlj, xlf, xld, xla, xlg, xst, xst2, xc1, pI, pJ, pF, pD, pR, pA, p1, p0, xpop, xpush, xsm, xhas, xif, xic, xsw, xai, xal, xhi, xhv, xrf, xret, xrtl, xrtf, xrtd, xrta, xrtv, xfit, xnew, cond_true, cond_false, f40, f41, f42, f43, List.length_cons, List.length_nil, Nat.reduceAdd, Nat.reduceSub, Nat.reduceMul, Nat.reduceBEq, List.map_cons, List.map_nil, List.headD_cons, List.getElem?_cons_zero, List.getElem?_cons_succ, List.set_cons_zero, List.set_cons_succ]
    exact ⟨Nat.le_refl _, Nat.le_refl _, hX _ _ ⟨by rw [e]; decide, e.symm, rfl⟩⟩
end
section
/-! ===== the class: one order ===== -/
theorem lfN_len (f : Nat) : ∀ (j r : Nat) (N : List Nat), (lfN f j r N).length = N.length
  | 0, _, _ => rfl
  | j + 1, r, N => (lfN_len f j (r + 1) _).trans List.length_set
theorem lfN_get (f : Nat) : ∀ (j r k : Nat) (N : List Nat), (k < 11 + r ∨ 11 + r + j ≤ k) → (lfN f j r N).getD k 0 = N.getD k 0
  | 0, _, _, _, _ => rfl
  | j + 1, r, k, N, h => by
    rw [lfN, lfN_get f j (r + 1) k _ (by omega), gs_ne (by omega)]
theorem letN_len (N : List Nat) (u : Nat) : (letN N u).length = N.length := List.length_set.trans (lfN_len _ _ _ _)
theorem letN_get (N : List Nat) (u k : Nat) (h : 0 < k ∧ k < 11 ∨ 16 ≤ k) : (letN N u).getD k 0 = N.getD k 0 := by
  unfold letN
  rw [gs_ne (by omega), lfN_get _ _ _ _ _ (by omega)]
theorem letN_0 (N : List Nat) (u : Nat) (h : N.length = 18) : (letN N u).getD 0 0 = settledN u := by
  unfold letN
  rw [gs_eq (by rw [lfN_len]; omega)]
theorem st_let {N : List Nat} {u : Nat} (hN : N.length = 18) (hu : u < 32768) (h1 : N.getD 1 0 < 2) (h3 : 1 ≤ N.getD 3 0) (h3' : N.getD 3 0 < 4) (h4 : N.getD 4 0 < 2) (h5 : N.getD 5 0 < 2) : stN (letN N u) := by
  refine ⟨(letN_len N u).trans hN, ?_, ?_, ?_, ?_, ?_, ?_⟩
  · rw [letN_0 N u hN]; exact settled_lt hu
  · rw [letN_get _ _ _ (by omega)]; exact h1
  · rw [letN_get _ _ _ (by omega)]; exact h3
  · rw [letN_get _ _ _ (by omega)]; exact h3'
  · rw [letN_get _ _ _ (by omega)]; exact h4
  · rw [letN_get _ _ _ (by omega)]; exact h5
theorem st_steal {N : List Nat} {r b : Nat} (ok : stN N) (hr : r < 5) : stN (stealN N r b) := by
  obtain ⟨hN, h0, h1, h3, h3', h4, h5⟩ := ok
  unfold stealN
  refine st_let (by simp only [List.length_set]; exact hN) (rob_lt h0) ?_ ?_ ?_ ?_ ?_
  · rw [gs_eq (by simp only [List.length_set]; omega)]; omega
  · rw [gs_ne (by omega), gs_ne (by omega), gs_ne (by omega), gs_ne (by omega)]; exact h3
  · rw [gs_ne (by omega), gs_ne (by omega), gs_ne (by omega), gs_ne (by omega)]; exact h3'
  · rw [gs_ne (by omega), gs_ne (by omega), gs_ne (by omega), gs_ne (by omega)]; exact h4
  · rw [gs_ne (by omega), gs_ne (by omega), gs_ne (by omega), gs_ne (by omega)]; exact h5
theorem st_knock {N : List Nat} {r p : Nat} (ok : stN N) : stN (knockN N r p) := by
  obtain ⟨hN, h0, h1, h3, h3', h4, h5⟩ := ok
  unfold knockN
  refine st_let (List.length_set.trans hN) (Nat.lt_of_le_of_lt Nat.and_le_left h0) ?_ ?_ ?_ ?_ ?_
  · rw [gs_ne (by omega)]; exact h1
  · rw [gs_ne (by omega)]; exact h3
  · rw [gs_ne (by omega)]; exact h3'
  · rw [gs_ne (by omega)]; exact h4
  · rw [gs_ne (by omega)]; exact h5
theorem st_0 {N : List Nat} {m : Nat} (ok : stN N) (hm : m < 32768) : stN (N.set 0 m) := by
  obtain ⟨hN, h0, h1, h3, h3', h4, h5⟩ := ok
  refine ⟨List.length_set.trans hN, ?_, ?_, ?_, ?_, ?_, ?_⟩
  · rw [gs_eq (by omega)]; exact hm
  · rw [gs_ne (by omega)]; exact h1
  · rw [gs_ne (by omega)]; exact h3
  · rw [gs_ne (by omega)]; exact h3'
  · rw [gs_ne (by omega)]; exact h4
  · rw [gs_ne (by omega)]; exact h5
theorem st_1 {N : List Nat} {t : Nat} (ok : stN N) (ht : t < 2) : stN (N.set 1 t) := by
  obtain ⟨hN, h0, h1, h3, h3', h4, h5⟩ := ok
  refine ⟨List.length_set.trans hN, ?_, ?_, ?_, ?_, ?_, ?_⟩
  · rw [gs_ne (by omega)]; exact h0
  · rw [gs_eq (by omega)]; exact ht
  · rw [gs_ne (by omega)]; exact h3
  · rw [gs_ne (by omega)]; exact h3'
  · rw [gs_ne (by omega)]; exact h4
  · rw [gs_ne (by omega)]; exact h5
theorem mirP_lt (m r : Nat) (hr : r < 5) : ∀ (j p a : Nat), p + j = 5 - r → a < 32768 → mirP m r j p a < 32768
  | 0, _, _, _, h => h
  | j + 1, p, a, hp, h => by
    rw [mirP]
    refine mirP_lt m r hr j (p + 1) _ (by omega) ?_
    split
    · exact Nat.or_lt_two_pow (n := 15) h (place_lt hr (by omega))
    · exact h
theorem mirR_lt (m : Nat) : ∀ (j r a : Nat), r + j = 5 → a < 32768 → mirR m j r a < 32768
  | 0, _, _, _, h => h
  | j + 1, r, a, hr, h => mirR_lt m j (r + 1) _ (by omega) (mirP_lt m r (by omega) _ _ _ (by omega) h)
theorem mirN_lt (m : Nat) : mirN m < 32768 := mirR_lt m 5 0 0 rfl (by decide)
theorem st_swap {N : List Nat} (ok : stN N) : stN (swapN N) := st_1 (st_0 ok (mirN_lt _)) (by have := ok.2.2.1; omega)
theorem st_fill {N : List Nat} (ok : stN N) : stN (fillN N) := st_1 (st_0 ok (by decide)) (by decide)
theorem st_put {N : List Nat} {r p : Nat} (ok : stN N) (hr : r < 5) (hp : p < 5 - r) : stN (N.set 0 (N.getD 0 0 ||| 1 <<< (rsN r + p))) := st_0 ok (Nat.or_lt_two_pow (n := 15) ok.2.1 (place_lt hr hp))
end
section
/-! ===== the class: the Plays that are kept ===== -/
abbrev hB0 (g : xH) : xH := hB [] [] [] [] [] 0 0 false g
def plE (g : xH) (v : Value) (i : Nat) : Prop := v = .null ∨ ∃ p w lg sh, v = .ref (p + 7) ∧ PlA (hB0 g) (p + 7) 5 (w + 7) (lg + 7) (sh + 7) (i / 4 + 1) (i / 2 % 2 == 1) (i % 2 == 1) (plT (i / 4 + 1) (i / 2 % 2 == 1) (i % 2 == 1))
def isNu : Value → Nat
  | .null => 1
  | _ => 0
def nul : List Value → Nat
  | [] => 0
  | v :: l => isNu v + nul l
def gOk (P : List Value) (g : xH) : Prop := P.length = 12 ∧ (∀ i, i < 12 → plE g (P.getD i .null) i) ∧ xwS (g.length + 7) P ∧ xwH (g.length + 7) g ∧ g.length + 4 * nul P ≤ 700
theorem get_mono {g k : xH} {p : Nat} {c : xC} (h : g[p]? = some c) : (g ++ k)[p]? = some c := by
  rw [List.getElem?_append_left (List.getElem?_eq_some_iff.mp h).1]
  exact h
theorem PlA_mono {g k : xH} {N V S C : List Nat} {P : List Value} {sv tl : Nat} {has : Bool} {p w lg sh most : Nat} {bar wo : Bool} {T : xTb} (x : PlA (hB0 g) (p + 7) 5 (w + 7) (lg + 7) (sh + 7) most bar wo T) :
    PlA (hB N V S C P sv tl has (g ++ k)) (p + 7) 5 (w + 7) (lg + 7) (sh + 7) most bar wo T :=
  ⟨get_mono (g := g) x.obj, rfl, get_mono (g := g) x.won, get_mono (g := g) x.lon, get_mono (g := g) x.sho, x.la, x.ll, x.ls, x.n1, x.n2, x.n3⟩
theorem plE_mono {g k : xH} {v : Value} {i : Nat} (h : plE g v i) : plE (g ++ k) v i := by
  rcases h with h | ⟨p, w, lg, sh, e, x⟩
  · exact Or.inl h
  · exact Or.inr ⟨p, w, lg, sh, e, PlA_mono x⟩
theorem nul_set : ∀ (l : List Value) (i : Nat) (a : Nat), l.getD i .null = .null → i < l.length → nul (l.set i (.ref a)) + 1 = nul l
  | [], _, _, _, h => absurd h (by simp)
  | v :: l, 0, a, e, _ => by
    have e : v = .null := e
    subst e
    show 0 + nul l + 1 = 1 + nul l
    omega
  | v :: l, i + 1, a, e, h => by
    have h := nul_set l i a e (Nat.lt_of_succ_lt_succ h)
    show isNu v + nul (l.set i (.ref a)) + 1 = isNu v + nul l
    omega
theorem xwS_set {n a : Nat} (ha : a < n) : ∀ (l : List Value) (i : Nat), xwS n l → xwS n (l.set i (.ref a))
  | [], _, _ => trivial
  | _ :: _, 0, w => ⟨Or.inl ha, w.2⟩
  | _ :: l, i + 1, w => ⟨w.1, xwS_set ha l i w.2⟩
theorem getD_set_ne {l : List Value} {i j : Nat} {v : Value} (h : i ≠ j) : (l.set i v).getD j .null = l.getD j .null := by
  rw [List.getD_eq_getElem?_getD, List.getElem?_set_ne h, List.getD_eq_getElem?_getD]
theorem getD_set_eq {l : List Value} {i : Nat} {v : Value} (h : i < l.length) : (l.set i v).getD i .null = v := by
  rw [List.getD_eq_getElem?_getD, List.getElem?_set_self h]
  rfl
/-- the Play that a row of numbers asks for -/
def chN (N : List Nat) : Nat := 4 * (N.getD 3 0 - 1) + 2 * N.getD 4 0 + N.getD 5 0
def plN (N : List Nat) : xTb := plT (N.getD 3 0) (N.getD 4 0 == 1) (N.getD 5 0 == 1)
theorem gOk_new {P : List Value} {g : xH} {i : Nat} (h : gOk P g) (hi : i < 12) (e : P.getD i .null = .null) :
    gOk (P.set i (.ref (g.length + 7))) (g ++ [(5, [], [.ref 5, .int (nI (i / 4 + 1)), .int (bI (i / 2 % 2 == 1)), .int (bI (i % 2 == 1)), .ref (g.length + 7 + 1), .ref (g.length + 7 + 2), .ref (g.length + 7 + 3)]), (2, (plT (i / 4 + 1) (i / 2 % 2 == 1) (i % 2 == 1)).1.map bI, []), (0, (plT (i / 4 + 1) (i / 2 % 2 == 1) (i % 2 == 1)).2.1.map nI, []), (0, (plT (i / 4 + 1) (i / 2 % 2 == 1) (i % 2 == 1)).2.2.map nI, [])]) := by
  obtain ⟨h1, h2, h3, h4, h5⟩ := h
  have hn := nul_set P i (g.length + 7) e (by omega)
  refine ⟨List.length_set.trans h1, ?_, ?_, ?_, ?_⟩
  · intro j hj
    by_cases hij : i = j
    · subst hij
      rw [getD_set_eq (by omega)]
      have pl := hP_A (h0 := hB0 g) (a := 5) (most := i / 4 + 1) (bar := i / 2 % 2 == 1) (wo := i % 2 == 1) (T := plT (i / 4 + 1) (i / 2 % 2 == 1) (i % 2 == 1)) rfl (by simp only [List.length_cons]; omega) (plT_3 _ _ _)
      exact Or.inr ⟨g.length, g.length + 1, g.length + 2, g.length + 3, rfl, pl⟩
    · rw [getD_set_ne hij]
      exact plE_mono (h2 j hj)
  · rw [List.length_append]
    exact xwS_set (by simp only [List.length_cons, List.length_nil]; omega) _ _ (xwS_le (by omega) h3)
  · rw [List.length_append]
    simp only [List.length_cons, List.length_nil]
    exact xwH_app (xwH_le (by omega) h4) ⟨⟨wr (by omega), trivial, trivial, trivial, wr (by omega), wr (by omega), wr (by omega), trivial⟩, trivial, trivial, trivial, trivial⟩
  · rw [List.length_append]
    simp only [List.length_cons, List.length_nil]
    omega
end
section
theorem chN_lt {N : List Nat} (ok : stN N) : chN N < 12 := by
  obtain ⟨hN, h0, h1, h3, h3', h4, h5⟩ := ok
  unfold chN
  omega
theorem chN_3 {N : List Nat} (ok : stN N) : chN N / 4 + 1 = N.getD 3 0 := by
  obtain ⟨hN, h0, h1, h3, h3', h4, h5⟩ := ok
  unfold chN
  omega
theorem chN_4 {N : List Nat} (ok : stN N) : chN N / 2 % 2 = N.getD 4 0 := by
  obtain ⟨hN, h0, h1, h3, h3', h4, h5⟩ := ok
  unfold chN
  omega
theorem chN_5 {N : List Nat} (ok : stN N) : chN N % 2 = N.getD 5 0 := by
  obtain ⟨hN, h0, h1, h3, h3', h4, h5⟩ := ok
  unfold chN
  omega
/-- what a call of play() leaves: the Play, and the heap behind it -/
def playQ (N V S C : List Nat) (sv tl : Nat) (has : Bool) (g : xH) : Option Value → xH → Prop := fun v h' => ∃ p w lg sh P' g', v = some (.ref p) ∧ h' = hB N V S C P' sv tl has g' ∧ gOk P' g' ∧ PlA h' p 5 w lg sh (N.getD 3 0) (N.getD 4 0 == 1) (N.getD 5 0 == 1) (plN N) ∧ ∃ k, g' = g ++ k
set_option maxRecDepth 100000 in
set_option maxHeartbeats 4000000 in
theorem ev_play (d : Nat) (N V S C : List Nat) (P : List Value) (sv tl : Nat) (has : Bool) (g : xH) (ok : stN N) (gk : gOk P g) :
    Ev xT (d + 5) N_B_play [.ref 0] (hB N V S C P sv tl has g) (playQ N V S C sv tl has g) NX := by
  refine Ev_intro t_B_play (Nat.le_of_ble_eq_true rfl) ?_
  intro Q X hQ hX K hK
  show K 0 [some (.ref 0), none, none] [] _ 0 0
  have ok' := ok
  have hci := chN_lt ok
  obtain ⟨hN, h0, h1, h3, h3', h4, h5⟩ := ok
  have hch : nI 4 * (nI (N.getD 3 0) - nI 1) + nI 2 * nI (N.getD 4 0) + nI (N.getD 5 0) = nI (chN N) := by
    rw [n_sub h3, pk_mul, pk_mul, nI_add, nI_add]
    rfl
  have hP := gk.1
  refine hK 0 _ _ _ _ _ _ _ _ rfl ?_
  dsimp only [k_B_play_0, hN1, hB, wpI, xop, xcall, xli, xlj, xlf, xld, xla, xlg, xst, xst2, xc1, pI, pJ, pF, pD, pR, pA, p1, p0, xpop, xpush, xsm, xhas, xif, xic, xsw, xrf, xret, xrtl, xrtf, xrtd, xrta, xrtv, xfit, xnew, cond_true, cond_false, f40, f41, f42, f43, List.length_cons, List.length_nil, Nat.reduceAdd, Nat.reduceSub, Nat.reduceMul, Nat.reduceBEq, List.map_cons, List.map_nil, List.headD_cons, List.getElem?_cons_zero, List.getElem?_cons_succ, List.set_cons_zero, List.set_cons_succ]
  refine xhv_of rfl ?_
  dsimp only [hN1, hB, wpI, xop, xcall, xli, xlj, xlf, xld, xla, xlg, xst, xst2, xc1, pI, pJ, pF, pD, pR, pA, p1, p0, xpop, xpush, xsm, xhas, xif, xic, xsw, xrf, xret, xrtl, xrtf, xrtd, xrta, xrtv, xfit, xnew, cond_true, cond_false, f40, f41, f42, f43, List.length_cons, List.length_nil, Nat.reduceAdd, Nat.reduceSub, Nat.reduceMul, Nat.reduceBEq, List.map_cons, List.map_nil, List.headD_cons, List.getElem?_cons_zero, List.getElem?_cons_succ, List.set_cons_zero, List.set_cons_succ]
  refine xai_of (by decide) rfl ?_
  try simp (disch := first | omega | (simp only [List.length_set]; omega)) only [nI_add, n_and, n_or, n_xor, n_i31, nI_leI, nI_ltI, n_e0, n_eq, n_m1e, n_l0, n_g0, n_p0, n_q0, n_cl, n_in, n_sub, n_shr, n_shl, n_div, bI_0, n_01, n_11, bI_or, not_false_eq_true, forall_const, not_true_eq_false, false_imp_iff, true_imp_iff, List.length_map, List.length_set, hN, nL_u, gs_eq, gs_ne, nI_set, Nat.reduceLT, true_and, and_true, pk_mul]
  refine xhv_of rfl ?_
  dsimp only [hN1, hB, wpI, xop, xcall, xli, xlj, xlf, xld, xla, xlg, xst, xst2, xc1, pI, pJ, pF, pD, pR, pA, p1, p0, xpop, xpush, xsm, xhas, xif, xic, xsw, xrf, xret, xrtl, xrtf, xrtd, xrta, xrtv, xfit, xnew, cond_true, cond_false, f40, f41, f42, f43, List.length_cons, List.length_nil, Nat.reduceAdd, Nat.reduceSub, Nat.reduceMul, Nat.reduceBEq, List.map_cons, List.map_nil, List.headD_cons, List.getElem?_cons_zero, List.getElem?_cons_succ, List.set_cons_zero, List.set_cons_succ]
  refine xai_of (by decide) rfl ?_
  try simp (disch := first | omega | (simp only [List.length_set]; omega)) only [nI_add, n_and, n_or, n_xor, n_i31, nI_leI, nI_ltI, n_e0, n_eq, n_m1e, n_l0, n_g0, n_p0, n_q0, n_cl, n_in, n_sub, n_shr, n_shl, n_div, bI_0, n_01, n_11, bI_or, not_false_eq_true, forall_const, not_true_eq_false, false_imp_iff, true_imp_iff, List.length_map, List.length_set, hN, nL_u, gs_eq, gs_ne, nI_set, Nat.reduceLT, true_and, and_true, pk_mul]
  refine xhv_of rfl ?_
  dsimp only [hN1, hB, wpI, xop, xcall, xli, xlj, xlf, xld, xla, xlg, xst, xst2, xc1, pI, pJ, pF, pD, pR, pA, p1, p0, xpop, xpush, xsm, xhas, xif, xic, xsw, xrf, xret, xrtl, xrtf, xrtd, xrta, xrtv, xfit, xnew, cond_true, cond_false, f40, f41, f42, f43, List.length_cons, List.length_nil, Nat.reduceAdd, Nat.reduceSub, Nat.reduceMul, Nat.reduceBEq, List.map_cons, List.map_nil, List.headD_cons, List.getElem?_cons_zero, List.getElem?_cons_succ, List.set_cons_zero, List.set_cons_succ]
  refine xai_of (by decide) rfl ?_
  try simp (disch := first | omega | (simp only [List.length_set]; omega)) only [nI_add, n_and, n_or, n_xor, n_i31, nI_leI, nI_ltI, n_e0, n_eq, n_m1e, n_l0, n_g0, n_p0, n_q0, n_cl, n_in, n_sub, n_shr, n_shl, n_div, bI_0, n_01, n_11, bI_or, not_false_eq_true, forall_const, not_true_eq_false, false_imp_iff, true_imp_iff, List.length_map, List.length_set, hN, nL_u, gs_eq, gs_ne, nI_set, Nat.reduceLT, true_and, and_true, pk_mul]
  have hc : 4 * (N.getD 3 0 - 1) + 2 * N.getD 4 0 + N.getD 5 0 = chN N := rfl
  rw [hc]
  refine xhv_of rfl ?_
  dsimp only [hN1, hB, wpI, xop, xcall, xli, xlj, xlf, xld, xla, xlg, xst, xst2, xc1, pI, pJ, pF, pD, pR, pA, p1, p0, xpop, xpush, xsm, xhas, xif, xic, xsw, xrf, xret, xrtl, xrtf, xrtd, xrta, xrtv, xfit, xnew, cond_true, cond_false, f40, f41, f42, f43, List.length_cons, List.length_nil, Nat.reduceAdd, Nat.reduceSub, Nat.reduceMul, Nat.reduceBEq, List.map_cons, List.map_nil, List.headD_cons, List.getElem?_cons_zero, List.getElem?_cons_succ, List.set_cons_zero, List.set_cons_succ]
  refine xhv_of rfl ?_
  rw [hP]
  refine ⟨hci, ?_⟩
  rcases gk.2.1 (chN N) hci with e | ⟨p, w, lg, sh, e, pl⟩
  · rw [e]
    dsimp only [hN1, hB, wpI, xop, xcall, xli, xlj, xlf, xld, xla, xlg, xst, xst2, xc1, pI, pJ, pF, pD, pR, pA, p1, p0, xpop, xpush, xsm, xhas, xif, xic, xsw, xrf, xret, xrtl, xrtf, xrtd, xrta, xrtv, xfit, xnew, cond_true, cond_false, f40, f41, f42, f43, List.length_cons, List.length_nil, Nat.reduceAdd, Nat.reduceSub, Nat.reduceMul, Nat.reduceBEq, List.map_cons, List.map_nil, List.headD_cons, List.getElem?_cons_zero, List.getElem?_cons_succ, List.set_cons_zero, List.set_cons_succ]
    have hl : g.length ≤ 700 := by have := gk.2.2.2.2; omega
    have hwf : xwH (hB N V S C P sv tl has g).length (hB N V S C P sv tl has g) := by
      simp only [List.length_cons]
      exact ⟨⟨wr (by omega), wr (by omega), trivial, wr (by omega), trivial, wr (by omega), trivial, wr (by omega), wr (by omega), trivial⟩, trivial, trivial, trivial, trivial, trivial, gk.2.2.1, gk.2.2.2.1⟩
    have go2 : ∀ wo, wo = (N.getD 5 0 == 1) → K 2 [some (.ref 0), some (.int (nI (chN N))), some .null] [.int (bI wo), .int (bI (barB N)), .int (nI (N.getD 3 0)), .ref 5, .ref (g.length + 7), .ref (g.length + 7)] (hB N V S C P sv tl has (g ++ [(5, [], [.null, .int 0, .int 0, .int 0, .null, .null, .null])])) 1 7 := by
      intro wo hw
      refine hK 2 _ _ _ _ _ _ _ _ rfl ?_
      dsimp only [k_B_play_2, hN1, hB, wpI, xop, xcall, xli, xlj, xlf, xld, xla, xlg, xst, xst2, xc1, pI, pJ, pF, pD, pR, pA, p1, p0, xpop, xpush, xsm, xhas, xif, xic, xsw, xrf, xret, xrtl, xrtf, xrtd, xrta, xrtv, xfit, xnew, cond_true, cond_false, f40, f41, f42, f43, List.length_cons, List.length_nil, Nat.reduceAdd, Nat.reduceSub, Nat.reduceMul, Nat.reduceBEq, List.map_cons, List.map_nil, List.headD_cons, List.getElem?_cons_zero, List.getElem?_cons_succ, List.set_cons_zero, List.set_cons_succ]
      simp only [List.length_append, List.length_cons, List.length_nil]
      refine ⟨trivial, by decide, by decide, ⟨wr (by omega), trivial, trivial, trivial⟩, ⟨wr (by omega), trivial⟩, ?_⟩
      refine Ev_use (ev_L_init _ 5 (N.getD 3 0) (barB N) wo (hB N V S C P sv tl has g) rfl (by simp only [List.length_cons]; omega) hwf (by omega)) ?_
      dsimp only [hN1, hB, wpI, xop, xcall, xli, xlj, xlf, xld, xla, xlg, xst, xst2, xc1, pI, pJ, pF, pD, pR, pA, p1, p0, xpop, xpush, xsm, xhas, xif, xic, xsw, xrf, xret, xrtl, xrtf, xrtd, xrta, xrtv, xfit, xnew, cond_true, cond_false, f40, f41, f42, f43, List.length_cons, List.length_nil, Nat.reduceAdd, Nat.reduceSub, Nat.reduceMul, Nat.reduceBEq, List.map_cons, List.map_nil, List.headD_cons, List.getElem?_cons_zero, List.getElem?_cons_succ, List.set_cons_zero, List.set_cons_succ]
      refine xhv_of rfl ?_
      dsimp only [hN1, hB, wpI, xop, xcall, xli, xlj, xlf, xld, xla, xlg, xst, xst2, xc1, pI, pJ, pF, pD, pR, pA, p1, p0, xpop, xpush, xsm, xhas, xif, xic, xsw, xrf, xret, xrtl, xrtf, xrtd, xrta, xrtv, xfit, xnew, cond_true, cond_false, f40, f41, f42, f43, List.length_cons, List.length_nil, Nat.reduceAdd, Nat.reduceSub, Nat.reduceMul, Nat.reduceBEq, List.map_cons, List.map_nil, List.headD_cons, List.getElem?_cons_zero, List.getElem?_cons_succ, List.set_cons_zero, List.set_cons_succ]
      refine xhv_of rfl ?_
      refine xhv_of (g_0 (hB N V S C P sv tl has g) _ _) ?_
      rw [hP]
      try simp (disch := first | omega | (simp only [List.length_set]; omega)) only [nI_add, n_and, n_or, n_xor, n_i31, nI_leI, nI_ltI, n_e0, n_eq, n_m1e, n_l0, n_g0, n_p0, n_q0, n_cl, n_in, n_sub, n_shr, n_shl, n_div, bI_0, n_01, n_11, bI_or, not_false_eq_true, forall_const, not_true_eq_false, false_imp_iff, true_imp_iff, List.length_map, List.length_set, hN, nL_u, gs_eq, gs_ne, nI_set, Nat.reduceLT, true_and, and_true, pk_mul]
      refine ⟨hci, ?_⟩
      have gn := gOk_new gk hci e
      rw [chN_3 ok', chN_4 ok', chN_5 ok'] at gn
      have pl := hP_A (h0 := hB N V S C (P.set (chN N) (.ref (g.length + 7))) sv tl has g) (a := 5) (most := N.getD 3 0) (bar := N.getD 4 0 == 1) (wo := N.getD 5 0 == 1) (T := plT (N.getD 3 0) (N.getD 4 0 == 1) (N.getD 5 0 == 1)) rfl (by simp only [List.length_cons]; omega) (plT_3 _ _ _)
      subst hw
      refine hK 3 _ _ _ _ _ _ _ _ rfl ?_
      dsimp only [k_B_play_3, hN1, hB, wpI, xop, xcall, xli, xlj, xlf, xld, xla, xlg, xst, xst2, xc1, pI, pJ, pF, pD, pR, pA, p1, p0, xpop, xpush, xsm, xhas, xif, xic, xsw, xrf, xret, xrtl, xrtf, xrtd, xrta, xrtv, xfit, xnew, cond_true, cond_false, f40, f41, f42, f43, List.length_cons, List.length_nil, Nat.reduceAdd, Nat.reduceSub, Nat.reduceMul, Nat.reduceBEq, List.map_cons, List.map_nil, List.headD_cons, List.getElem?_cons_zero, List.getElem?_cons_succ, List.set_cons_zero, List.set_cons_succ]
      exact ⟨by decide, by decide, hQ _ _ ⟨_, _, _, _, P.set (chN N) (.ref (g.length + 7)), _, rfl, rfl, gn, pl, _, rfl⟩⟩
    refine ⟨by decide, by decide, by omega, ⟨wr (by omega), trivial, trivial, trivial⟩, trivial, ⟨⟨wr (by omega), wr (by omega), trivial, wr (by omega), trivial, wr (by omega), trivial, wr (by omega), wr (by omega), trivial⟩, trivial, trivial, trivial, trivial, trivial, gk.2.2.1, gk.2.2.2.1⟩, ?_⟩
    simp only [List.cons_append, xdef]
    refine xhv_of rfl ?_
    dsimp only [hN1, hB, wpI, xop, xcall, xli, xlj, xlf, xld, xla, xlg, xst, xst2, xc1, pI, pJ, pF, pD, pR, pA, p1, p0, xpop, xpush, xsm, xhas, xif, xic, xsw, xrf, xret, xrtl, xrtf, xrtd, xrta, xrtv, xfit, xnew, cond_true, cond_false, f40, f41, f42, f43, List.length_cons, List.length_nil, Nat.reduceAdd, Nat.reduceSub, Nat.reduceMul, Nat.reduceBEq, List.map_cons, List.map_nil, List.headD_cons, List.getElem?_cons_zero, List.getElem?_cons_succ, List.set_cons_zero, List.set_cons_succ]
    refine xhv_of rfl ?_
    dsimp only [hN1, hB, wpI, xop, xcall, xli, xlj, xlf, xld, xla, xlg, xst, xst2, xc1, pI, pJ, pF, pD, pR, pA, p1, p0, xpop, xpush, xsm, xhas, xif, xic, xsw, xrf, xret, xrtl, xrtf, xrtd, xrta, xrtv, xfit, xnew, cond_true, cond_false, f40, f41, f42, f43, List.length_cons, List.length_nil, Nat.reduceAdd, Nat.reduceSub, Nat.reduceMul, Nat.reduceBEq, List.map_cons, List.map_nil, List.headD_cons, List.getElem?_cons_zero, List.getElem?_cons_succ, List.set_cons_zero, List.set_cons_succ]
    refine xai_of (by decide) rfl ?_
    try simp (disch := first | omega | (simp only [List.length_set]; omega)) only [nI_add, n_and, n_or, n_xor, n_i31, nI_leI, nI_ltI, n_e0, n_eq, n_m1e, n_l0, n_g0, n_p0, n_q0, n_cl, n_in, n_sub, n_shr, n_shl, n_div, bI_0, n_01, n_11, bI_or, not_false_eq_true, forall_const, not_true_eq_false, false_imp_iff, true_imp_iff, List.length_map, List.length_set, hN, nL_u, gs_eq, gs_ne, nI_set, Nat.reduceLT, true_and, and_true, pk_mul]
    refine xhv_of rfl ?_
    refine Ev_use (ev_isBarring _ N _ _ ok') ?_
    dsimp only [hN1, hB, wpI, xop, xcall, xli, xlj, xlf, xld, xla, xlg, xst, xst2, xc1, pI, pJ, pF, pD, pR, pA, p1, p0, xpop, xpush, xsm, xhas, xif, xic, xsw, xai, xal, xhi, xhv, xrf, xret, xrtl, xrtf, xrtd, xrta, xrtv, xfit, xnew, cond_true, cond_false, f40, f41, f42, f43, List.length_cons, List.length_nil, Nat.reduceAdd, Nat.reduceSub, Nat.reduceMul, Nat.reduceBEq, List.map_cons, List.map_nil, List.headD_cons, List.getElem?_cons_zero, List.getElem?_cons_succ, List.set_cons_zero, List.set_cons_succ]
    try simp (disch := first | omega | (simp only [List.length_set]; omega)) only [nI_add, n_and, n_or, n_xor, n_i31, nI_leI, nI_ltI, n_e0, n_eq, n_m1e, n_l0, n_g0, n_p0, n_q0, n_cl, n_in, n_sub, n_shr, n_shl, n_div, bI_0, n_01, n_11, bI_or, not_false_eq_true, forall_const, not_true_eq_false, false_imp_iff, true_imp_iff, List.length_map, List.length_set, hN, nL_u, gs_eq, gs_ne, nI_set, Nat.reduceLT, true_and, and_true, pk_mul]
    refine ⟨fun z => ?_, fun z => ?_⟩
    · refine hK 1 _ _ _ _ _ _ _ _ rfl ?_
      dsimp only [k_B_play_1, hN1, hB, wpI, xop, xcall, xli, xlj, xlf, xld, xla, xlg, xst, xst2, xc1, pI, pJ, pF, pD, pR, pA, p1, p0, xpop, xpush, xsm, xhas, xif, xic, xsw, xrf, xret, xrtl, xrtf, xrtd, xrta, xrtv, xfit, xnew, cond_true, cond_false, f40, f41, f42, f43, List.length_cons, List.length_nil, Nat.reduceAdd, Nat.reduceSub, Nat.reduceMul, Nat.reduceBEq, List.map_cons, List.map_nil, List.headD_cons, List.getElem?_cons_zero, List.getElem?_cons_succ, List.set_cons_zero, List.set_cons_succ]
      exact go2 false (by rw [beq_eq_false_iff_ne.mpr z])
    · exact go2 true (by rw [beq_iff_eq.mpr z])
  · rw [chN_3 ok', chN_4 ok', chN_5 ok'] at pl
    have pl := PlA_mono (N := N) (V := V) (S := S) (C := C) (P := P) (sv := sv) (tl := tl) (has := has) (k := []) pl
    rw [List.append_nil] at pl
    rw [e]
    dsimp only [hN1, hB, wpI, xop, xcall, xli, xlj, xlf, xld, xla, xlg, xst, xst2, xc1, pI, pJ, pF, pD, pR, pA, p1, p0, xpop, xpush, xsm, xhas, xif, xic, xsw, xrf, xret, xrtl, xrtf, xrtd, xrta, xrtv, xfit, xnew, cond_true, cond_false, f40, f41, f42, f43, List.length_cons, List.length_nil, Nat.reduceAdd, Nat.reduceSub, Nat.reduceMul, Nat.reduceBEq, List.map_cons, List.map_nil, List.headD_cons, List.getElem?_cons_zero, List.getElem?_cons_succ, List.set_cons_zero, List.set_cons_succ]
    refine ⟨fun z => (nomatch z), fun _ => ?_⟩
    refine hK 3 _ _ _ _ _ _ _ _ rfl ?_
    dsimp only [k_B_play_3, hN1, hB, wpI, xop, xcall, xli, xlj, xlf, xld, xla, xlg, xst, xst2, xc1, pI, pJ, pF, pD, pR, pA, p1, p0, xpop, xpush, xsm, xhas, xif, xic, xsw, xrf, xret, xrtl, xrtf, xrtd, xrta, xrtv, xfit, xnew, cond_true, cond_false, f40, f41, f42, f43, List.length_cons, List.length_nil, Nat.reduceAdd, Nat.reduceSub, Nat.reduceMul, Nat.reduceBEq, List.map_cons, List.map_nil, List.headD_cons, List.getElem?_cons_zero, List.getElem?_cons_succ, List.set_cons_zero, List.set_cons_succ]
    exact ⟨Nat.zero_le _, Nat.zero_le _, hQ _ _ ⟨_, _, _, _, P, g, rfl, rfl, gk, pl, [], (List.append_nil g).symm⟩⟩
end
section
/-! ===== the class: what the Plays tell ===== -/
/-- an answer of a call that may have made a Play -/
def clQ (N V S C : List Nat) (sv tl : Nat) (has : Bool) (g : xH) (e : Nat) (r : Option Value) : Option Value → xH → Prop := fun v h' => e = 0 ∧ v = r ∧ ∃ P' g', h' = hB N V S C P' sv tl has g' ∧ gOk P' g' ∧ ∃ k, g' = g ++ k
theorem turn_of {x : Int32} (z : ¬ x < 0) (z2 : x ≤ nI 1) : turnE x = 0 ∧ ∃ t, t < 2 ∧ x = nI t := by
  constructor
  · unfold turnE
    rw [if_neg]
    rintro (q | q)
    · exact z q
    · exact Int32.not_lt.mpr z2 q
  · obtain ⟨t, ht, rfl⟩ := nI_of z
    rw [nI_leI ht (by omega)] at z2
    exact ⟨t, by omega, rfl⟩
set_option maxRecDepth 100000 in
set_option maxHeartbeats 4000000 in
theorem ev_wins (d : Nat) (N V S C : List Nat) (P : List Value) (sv tl : Nat) (has : Bool) (g : xH) (x : Int32) (ok : stN N) (gk : gOk P g) :
    Ev xT (d + 6) N_B_wins [.ref 0, .int x] (hB N V S C P sv tl has g) (clQ N V S C sv tl has g (turnE x) (some (.int (nI (if wonB (plN N) x.toNatClampNeg (N.getD 0 0) then 1 else 0))))) (Xo (turnE x) (hB N V S C P sv tl has g)) := by
  refine Ev_intro t_B_wins (Nat.le_of_ble_eq_true rfl) ?_
  intro Q X hQ hX K hK
  show K 0 [some (.ref 0), some (.int x)] [] _ 0 0
  have ok' := ok
  obtain ⟨hN, h0, h1, h3, h3', h4, h5⟩ := ok
  have f1 : x < 0 ∨ nI 1 < x → K 1 [some (.ref 0), some (.int x)] [] (hB N V S C P sv tl has g) 0 0 := by
    intro z
    have e : turnE x = 11 := by unfold turnE; rw [if_pos z]
    refine hK 1 _ _ _ _ _ _ _ _ rfl ?_
    dsimp only [k_B_wins_1, hN1, hB, wpI, xop, xcall, xli, xlj, xlf, xld, xla, xlg, xst, xst2, xc1, pI, pJ, pF, pD, pR, pA, p1, p0, xpop, xpush, xsm, xhas, xif, xic, xsw, xai, xal, xhi, xhv, xrf, xret, xrtl, xrtf, xrtd, xrta, xrtv, xfit, xnew, cond_true, cond_false, f40, f41, f42, f43, List.length_cons, List.length_nil, Nat.reduceAdd, Nat.reduceSub, Nat.reduceMul, Nat.reduceBEq, List.map_cons, List.map_nil, List.headD_cons, List.getElem?_cons_zero, List.getElem?_cons_succ, List.set_cons_zero, List.set_cons_succ]
    exact ⟨by decide, by decide, hX _ _ ⟨by rw [e]; decide, e.symm, rfl⟩⟩
  refine hK 0 _ _ _ _ _ _ _ _ rfl ?_
  dsimp only [k_B_wins_0, hN1, hB, wpI, xop, xcall, xli, xlj, xlf, xld, xla, xlg, xst, xst2, xc1, pI, pJ, pF, pD, pR, pA, p1, p0, xpop, xpush, xsm, xhas, xif, xic, xsw, xai, xal, xhi, xhv, xrf, xret, xrtl, xrtf, xrtd, xrta, xrtv, xfit, xnew, cond_true, cond_false, f40, f41, f42, f43, List.length_cons, List.length_nil, Nat.reduceAdd, Nat.reduceSub, Nat.reduceMul, Nat.reduceBEq, List.map_cons, List.map_nil, List.headD_cons, List.getElem?_cons_zero, List.getElem?_cons_succ, List.set_cons_zero, List.set_cons_succ]
  refine ⟨fun z => f1 (Or.inl z), fun z => ⟨fun z2 => ?_, fun z2 => f1 (Or.inr (Int32.not_le.mp z2))⟩⟩
  obtain ⟨e, t, ht, rfl⟩ := turn_of z z2
  have hq := fun h' q => hQ (some (.int (nI (if wonB (plN N) (nI t).toNatClampNeg (N.getD 0 0) then 1 else 0)))) h' ⟨e, rfl, q⟩
  rw [n_cl (by omega)] at hq
  refine hK 2 _ _ _ _ _ _ _ _ rfl ?_
  dsimp only [k_B_wins_2, hN1, hB, wpI, xop, xcall, xli, xlj, xlf, xld, xla, xlg, xst, xst2, xc1, pI, pJ, pF, pD, pR, pA, p1, p0, xpop, xpush, xsm, xhas, xif, xic, xsw, xrf, xret, xrtl, xrtf, xrtd, xrta, xrtv, xfit, xnew, cond_true, cond_false, f40, f41, f42, f43, List.length_cons, List.length_nil, Nat.reduceAdd, Nat.reduceSub, Nat.reduceMul, Nat.reduceBEq, List.map_cons, List.map_nil, List.headD_cons, List.getElem?_cons_zero, List.getElem?_cons_succ, List.set_cons_zero, List.set_cons_succ]
  refine ⟨by trivial, by decide, by decide, ⟨wr (by omega), trivial, trivial⟩, trivial, ?_⟩
  refine Ev_of (ev_play _ N V S C P sv tl has g ok' gk) ?_
  rintro v h' ⟨p, w, lg, sh, P', g', rfl, rfl, gk', pl, ex⟩
  dsimp only [hN1, hB, wpI, xop, xcall, xli, xlj, xlf, xld, xla, xlg, xst, xst2, xc1, pI, pJ, pF, pD, pR, pA, p1, p0, xpop, xpush, xsm, xhas, xif, xic, xsw, xrf, xret, xrtl, xrtf, xrtd, xrta, xrtv, xfit, xnew, cond_true, cond_false, f40, f41, f42, f43, List.length_cons, List.length_nil, Nat.reduceAdd, Nat.reduceSub, Nat.reduceMul, Nat.reduceBEq, List.map_cons, List.map_nil, List.headD_cons, List.getElem?_cons_zero, List.getElem?_cons_succ, List.set_cons_zero, List.set_cons_succ]
  refine xhv_of rfl ?_
  dsimp only [hN1, hB, wpI, xop, xcall, xli, xlj, xlf, xld, xla, xlg, xst, xst2, xc1, pI, pJ, pF, pD, pR, pA, p1, p0, xpop, xpush, xsm, xhas, xif, xic, xsw, xrf, xret, xrtl, xrtf, xrtd, xrta, xrtv, xfit, xnew, cond_true, cond_false, f40, f41, f42, f43, List.length_cons, List.length_nil, Nat.reduceAdd, Nat.reduceSub, Nat.reduceMul, Nat.reduceBEq, List.map_cons, List.map_nil, List.headD_cons, List.getElem?_cons_zero, List.getElem?_cons_succ, List.set_cons_zero, List.set_cons_succ]
  refine xai_of (by decide) rfl ?_
  try simp (disch := first | omega | (simp only [List.length_set]; omega)) only [nI_add, n_and, n_or, n_xor, n_i31, nI_leI, nI_ltI, n_e0, n_eq, n_m1e, n_l0, n_g0, n_p0, n_q0, n_cl, n_in, n_sub, n_shr, n_shl, n_div, bI_0, n_01, n_11, bI_or, not_false_eq_true, forall_const, not_true_eq_false, false_imp_iff, true_imp_iff, List.length_map, List.length_set, hN, nL_u, gs_eq, gs_ne, nI_set, Nat.reduceLT, true_and, and_true, pk_mul]
  refine xhv_of pl.obj ?_
  refine Ev_use (ev_isWonBy _ p 5 w lg sh _ t _ _ _ _ _ pl ht h0) ?_
  dsimp only [hN1, hB, wpI, xop, xcall, xli, xlj, xlf, xld, xla, xlg, xst, xst2, xc1, pI, pJ, pF, pD, pR, pA, p1, p0, xpop, xpush, xsm, xhas, xif, xic, xsw, xrf, xret, xrtl, xrtf, xrtd, xrta, xrtv, xfit, xnew, cond_true, cond_false, f40, f41, f42, f43, List.length_cons, List.length_nil, Nat.reduceAdd, Nat.reduceSub, Nat.reduceMul, Nat.reduceBEq, List.map_cons, List.map_nil, List.headD_cons, List.getElem?_cons_zero, List.getElem?_cons_succ, List.set_cons_zero, List.set_cons_succ]
  rw [bI_0]
  refine ⟨fun y => ?_, fun y => ?_⟩
  · rw [y] at hq
    refine hK 3 _ _ _ _ _ _ _ _ rfl ?_
    dsimp only [k_B_wins_3, hN1, hB, wpI, xop, xcall, xli, xlj, xlf, xld, xla, xlg, xst, xst2, xc1, pI, pJ, pF, pD, pR, pA, p1, p0, xpop, xpush, xsm, xhas, xif, xic, xsw, xrf, xret, xrtl, xrtf, xrtd, xrta, xrtv, xfit, xnew, cond_true, cond_false, f40, f41, f42, f43, List.length_cons, List.length_nil, Nat.reduceAdd, Nat.reduceSub, Nat.reduceMul, Nat.reduceBEq, List.map_cons, List.map_nil, List.headD_cons, List.getElem?_cons_zero, List.getElem?_cons_succ, List.set_cons_zero, List.set_cons_succ]
    refine hK 4 _ _ _ _ _ _ _ _ rfl ?_
    dsimp only [k_B_wins_4, hN1, hB, wpI, xop, xcall, xli, xlj, xlf, xld, xla, xlg, xst, xst2, xc1, pI, pJ, pF, pD, pR, pA, p1, p0, xpop, xpush, xsm, xhas, xif, xic, xsw, xrf, xret, xrtl, xrtf, xrtd, xrta, xrtv, xfit, xnew, cond_true, cond_false, f40, f41, f42, f43, List.length_cons, List.length_nil, Nat.reduceAdd, Nat.reduceSub, Nat.reduceMul, Nat.reduceBEq, List.map_cons, List.map_nil, List.headD_cons, List.getElem?_cons_zero, List.getElem?_cons_succ, List.set_cons_zero, List.set_cons_succ]
    exact ⟨by decide, by decide, hq _ ⟨P', g', rfl, gk', ex⟩⟩
  · rw [b_nf y] at hq
    refine hK 4 _ _ _ _ _ _ _ _ rfl ?_
    dsimp only [k_B_wins_4, hN1, hB, wpI, xop, xcall, xli, xlj, xlf, xld, xla, xlg, xst, xst2, xc1, pI, pJ, pF, pD, pR, pA, p1, p0, xpop, xpush, xsm, xhas, xif, xic, xsw, xrf, xret, xrtl, xrtf, xrtd, xrta, xrtv, xfit, xnew, cond_true, cond_false, f40, f41, f42, f43, List.length_cons, List.length_nil, Nat.reduceAdd, Nat.reduceSub, Nat.reduceMul, Nat.reduceBEq, List.map_cons, List.map_nil, List.headD_cons, List.getElem?_cons_zero, List.getElem?_cons_succ, List.set_cons_zero, List.set_cons_succ]
    exact ⟨by decide, by decide, hq _ ⟨P', g', rfl, gk', ex⟩⟩
set_option maxRecDepth 100000 in
set_option maxHeartbeats 4000000 in
theorem ev_length (d : Nat) (N V S C : List Nat) (P : List Value) (sv tl : Nat) (has : Bool) (g : xH) (x : Int32) (ok : stN N) (gk : gOk P g) :
    Ev xT (d + 6) N_B_length [.ref 0, .int x] (hB N V S C P sv tl has g) (clQ N V S C sv tl has g (turnE x) (some (.int (nI (if x = 0 then lonN (plN N) (N.getD 1 0) (N.getD 0 0) else shoN (plN N) (N.getD 1 0) (N.getD 0 0)))))) (Xo (turnE x) (hB N V S C P sv tl has g)) := by
  refine Ev_intro t_B_length (Nat.le_of_ble_eq_true rfl) ?_
  intro Q X hQ hX K hK
  show K 0 [some (.ref 0), some (.int x)] [] _ 0 0
  have ok' := ok
  obtain ⟨hN, h0, h1, h3, h3', h4, h5⟩ := ok
  have f1 : x < 0 ∨ nI 1 < x → K 1 [some (.ref 0), some (.int x)] [] (hB N V S C P sv tl has g) 0 0 := by
    intro z
    have e : turnE x = 11 := by unfold turnE; rw [if_pos z]
    refine hK 1 _ _ _ _ _ _ _ _ rfl ?_
    dsimp only [k_B_length_1, hN1, hB, wpI, xop, xcall, xli, xlj, xlf, xld, xla, xlg, xst, xst2, xc1, pI, pJ, pF, pD, pR, pA, p1, p0, xpop, xpush, xsm, xhas, xif, xic, xsw, xai, xal, xhi, xhv, xrf, xret, xrtl, xrtf, xrtd, xrta, xrtv, xfit, xnew, cond_true, cond_false, f40, f41, f42, f43, List.length_cons, List.length_nil, Nat.reduceAdd, Nat.reduceSub, Nat.reduceMul, Nat.reduceBEq, List.map_cons, List.map_nil, List.headD_cons, List.getElem?_cons_zero, List.getElem?_cons_succ, List.set_cons_zero, List.set_cons_succ]
    exact ⟨by decide, by decide, hX _ _ ⟨by rw [e]; decide, e.symm, rfl⟩⟩
  refine hK 0 _ _ _ _ _ _ _ _ rfl ?_
  dsimp only [k_B_length_0, hN1, hB, wpI, xop, xcall, xli, xlj, xlf, xld, xla, xlg, xst, xst2, xc1, pI, pJ, pF, pD, pR, pA, p1, p0, xpop, xpush, xsm, xhas, xif, xic, xsw, xai, xal, xhi, xhv, xrf, xret, xrtl, xrtf, xrtd, xrta, xrtv, xfit, xnew, cond_true, cond_false, f40, f41, f42, f43, List.length_cons, List.length_nil, Nat.reduceAdd, Nat.reduceSub, Nat.reduceMul, Nat.reduceBEq, List.map_cons, List.map_nil, List.headD_cons, List.getElem?_cons_zero, List.getElem?_cons_succ, List.set_cons_zero, List.set_cons_succ]
  refine ⟨fun z => f1 (Or.inl z), fun z => ⟨fun z2 => ?_, fun z2 => f1 (Or.inr (Int32.not_le.mp z2))⟩⟩
  obtain ⟨e, _⟩ := turn_of z z2
  have hq := fun h' q => hQ (some (.int (nI (if x = 0 then lonN (plN N) (N.getD 1 0) (N.getD 0 0) else shoN (plN N) (N.getD 1 0) (N.getD 0 0))))) h' ⟨e, rfl, q⟩
  refine hK 2 _ _ _ _ _ _ _ _ rfl ?_
  dsimp only [k_B_length_2, hN1, hB, wpI, xop, xcall, xli, xlj, xlf, xld, xla, xlg, xst, xst2, xc1, pI, pJ, pF, pD, pR, pA, p1, p0, xpop, xpush, xsm, xhas, xif, xic, xsw, xrf, xret, xrtl, xrtf, xrtd, xrta, xrtv, xfit, xnew, cond_true, cond_false, f40, f41, f42, f43, List.length_cons, List.length_nil, Nat.reduceAdd, Nat.reduceSub, Nat.reduceMul, Nat.reduceBEq, List.map_cons, List.map_nil, List.headD_cons, List.getElem?_cons_zero, List.getElem?_cons_succ, List.set_cons_zero, List.set_cons_succ]
  refine ⟨fun y => ?_, fun y => ?_⟩
  · rw [if_neg y] at hq
    refine hK 3 _ _ _ _ _ _ _ _ rfl ?_
    dsimp only [k_B_length_3, hN1, hB, wpI, xop, xcall, xli, xlj, xlf, xld, xla, xlg, xst, xst2, xc1, pI, pJ, pF, pD, pR, pA, p1, p0, xpop, xpush, xsm, xhas, xif, xic, xsw, xrf, xret, xrtl, xrtf, xrtd, xrta, xrtv, xfit, xnew, cond_true, cond_false, f40, f41, f42, f43, List.length_cons, List.length_nil, Nat.reduceAdd, Nat.reduceSub, Nat.reduceMul, Nat.reduceBEq, List.map_cons, List.map_nil, List.headD_cons, List.getElem?_cons_zero, List.getElem?_cons_succ, List.set_cons_zero, List.set_cons_succ]
    refine ⟨by trivial, by decide, by decide, ⟨wr (by omega), trivial, trivial⟩, trivial, ?_⟩
    refine Ev_of (ev_play _ N V S C P sv tl has g ok' gk) ?_
    rintro v h' ⟨p, w, lg, sh, P', g', rfl, rfl, gk', pl, ex⟩
    dsimp only [hN1, hB, wpI, xop, xcall, xli, xlj, xlf, xld, xla, xlg, xst, xst2, xc1, pI, pJ, pF, pD, pR, pA, p1, p0, xpop, xpush, xsm, xhas, xif, xic, xsw, xrf, xret, xrtl, xrtf, xrtd, xrta, xrtv, xfit, xnew, cond_true, cond_false, f40, f41, f42, f43, List.length_cons, List.length_nil, Nat.reduceAdd, Nat.reduceSub, Nat.reduceMul, Nat.reduceBEq, List.map_cons, List.map_nil, List.headD_cons, List.getElem?_cons_zero, List.getElem?_cons_succ, List.set_cons_zero, List.set_cons_succ]
    refine xhv_of rfl ?_
    dsimp only [hN1, hB, wpI, xop, xcall, xli, xlj, xlf, xld, xla, xlg, xst, xst2, xc1, pI, pJ, pF, pD, pR, pA, p1, p0, xpop, xpush, xsm, xhas, xif, xic, xsw, xrf, xret, xrtl, xrtf, xrtd, xrta, xrtv, xfit, xnew, cond_true, cond_false, f40, f41, f42, f43, List.length_cons, List.length_nil, Nat.reduceAdd, Nat.reduceSub, Nat.reduceMul, Nat.reduceBEq, List.map_cons, List.map_nil, List.headD_cons, List.getElem?_cons_zero, List.getElem?_cons_succ, List.set_cons_zero, List.set_cons_succ]
    refine xai_of (by decide) rfl ?_
    try simp (disch := first | omega | (simp only [List.length_set]; omega)) only [nI_add, n_and, n_or, n_xor, n_i31, nI_leI, nI_ltI, n_e0, n_eq, n_m1e, n_l0, n_g0, n_p0, n_q0, n_cl, n_in, n_sub, n_shr, n_shl, n_div, bI_0, n_01, n_11, bI_or, not_false_eq_true, forall_const, not_true_eq_false, false_imp_iff, true_imp_iff, List.length_map, List.length_set, hN, nL_u, gs_eq, gs_ne, nI_set, Nat.reduceLT, true_and, and_true, pk_mul]
    refine xhv_of rfl ?_
    dsimp only [hN1, hB, wpI, xop, xcall, xli, xlj, xlf, xld, xla, xlg, xst, xst2, xc1, pI, pJ, pF, pD, pR, pA, p1, p0, xpop, xpush, xsm, xhas, xif, xic, xsw, xrf, xret, xrtl, xrtf, xrtd, xrta, xrtv, xfit, xnew, cond_true, cond_false, f40, f41, f42, f43, List.length_cons, List.length_nil, Nat.reduceAdd, Nat.reduceSub, Nat.reduceMul, Nat.reduceBEq, List.map_cons, List.map_nil, List.headD_cons, List.getElem?_cons_zero, List.getElem?_cons_succ, List.set_cons_zero, List.set_cons_succ]
    refine xai_of (by decide) rfl ?_
    try simp (disch := first | omega | (simp only [List.length_set]; omega)) only [nI_add, n_and, n_or, n_xor, n_i31, nI_leI, nI_ltI, n_e0, n_eq, n_m1e, n_l0, n_g0, n_p0, n_q0, n_cl, n_in, n_sub, n_shr, n_shl, n_div, bI_0, n_01, n_11, bI_or, not_false_eq_true, forall_const, not_true_eq_false, false_imp_iff, true_imp_iff, List.length_map, List.length_set, hN, nL_u, gs_eq, gs_ne, nI_set, Nat.reduceLT, true_and, and_true, pk_mul]
    refine xhv_of pl.obj ?_
    refine Ev_use (ev_shortestGame _ p 5 w lg sh _ _ _ _ _ _ _ pl h1 h0) ?_
    dsimp only [hN1, hB, wpI, xop, xcall, xli, xlj, xlf, xld, xla, xlg, xst, xst2, xc1, pI, pJ, pF, pD, pR, pA, p1, p0, xpop, xpush, xsm, xhas, xif, xic, xsw, xrf, xret, xrtl, xrtf, xrtd, xrta, xrtv, xfit, xnew, cond_true, cond_false, f40, f41, f42, f43, List.length_cons, List.length_nil, Nat.reduceAdd, Nat.reduceSub, Nat.reduceMul, Nat.reduceBEq, List.map_cons, List.map_nil, List.headD_cons, List.getElem?_cons_zero, List.getElem?_cons_succ, List.set_cons_zero, List.set_cons_succ]
    refine hK 4 _ _ _ _ _ _ _ _ rfl ?_
    dsimp only [k_B_length_4, hN1, hB, wpI, xop, xcall, xli, xlj, xlf, xld, xla, xlg, xst, xst2, xc1, pI, pJ, pF, pD, pR, pA, p1, p0, xpop, xpush, xsm, xhas, xif, xic, xsw, xrf, xret, xrtl, xrtf, xrtd, xrta, xrtv, xfit, xnew, cond_true, cond_false, f40, f41, f42, f43, List.length_cons, List.length_nil, Nat.reduceAdd, Nat.reduceSub, Nat.reduceMul, Nat.reduceBEq, List.map_cons, List.map_nil, List.headD_cons, List.getElem?_cons_zero, List.getElem?_cons_succ, List.set_cons_zero, List.set_cons_succ]
    exact ⟨by decide, by decide, hq _ ⟨P', g', rfl, gk', ex⟩⟩
  · rw [if_pos y] at hq
    refine ⟨by trivial, by decide, by decide, ⟨wr (by omega), trivial, trivial⟩, trivial, ?_⟩
    refine Ev_of (ev_play _ N V S C P sv tl has g ok' gk) ?_
    rintro v h' ⟨p, w, lg, sh, P', g', rfl, rfl, gk', pl, ex⟩
    dsimp only [hN1, hB, wpI, xop, xcall, xli, xlj, xlf, xld, xla, xlg, xst, xst2, xc1, pI, pJ, pF, pD, pR, pA, p1, p0, xpop, xpush, xsm, xhas, xif, xic, xsw, xrf, xret, xrtl, xrtf, xrtd, xrta, xrtv, xfit, xnew, cond_true, cond_false, f40, f41, f42, f43, List.length_cons, List.length_nil, Nat.reduceAdd, Nat.reduceSub, Nat.reduceMul, Nat.reduceBEq, List.map_cons, List.map_nil, List.headD_cons, List.getElem?_cons_zero, List.getElem?_cons_succ, List.set_cons_zero, List.set_cons_succ]
    refine xhv_of rfl ?_
    dsimp only [hN1, hB, wpI, xop, xcall, xli, xlj, xlf, xld, xla, xlg, xst, xst2, xc1, pI, pJ, pF, pD, pR, pA, p1, p0, xpop, xpush, xsm, xhas, xif, xic, xsw, xrf, xret, xrtl, xrtf, xrtd, xrta, xrtv, xfit, xnew, cond_true, cond_false, f40, f41, f42, f43, List.length_cons, List.length_nil, Nat.reduceAdd, Nat.reduceSub, Nat.reduceMul, Nat.reduceBEq, List.map_cons, List.map_nil, List.headD_cons, List.getElem?_cons_zero, List.getElem?_cons_succ, List.set_cons_zero, List.set_cons_succ]
    refine xai_of (by decide) rfl ?_
    try simp (disch := first | omega | (simp only [List.length_set]; omega)) only [nI_add, n_and, n_or, n_xor, n_i31, nI_leI, nI_ltI, n_e0, n_eq, n_m1e, n_l0, n_g0, n_p0, n_q0, n_cl, n_in, n_sub, n_shr, n_shl, n_div, bI_0, n_01, n_11, bI_or, not_false_eq_true, forall_const, not_true_eq_false, false_imp_iff, true_imp_iff, List.length_map, List.length_set, hN, nL_u, gs_eq, gs_ne, nI_set, Nat.reduceLT, true_and, and_true, pk_mul]
    refine xhv_of rfl ?_
    dsimp only [hN1, hB, wpI, xop, xcall, xli, xlj, xlf, xld, xla, xlg, xst, xst2, xc1, pI, pJ, pF, pD, pR, pA, p1, p0, xpop, xpush, xsm, xhas, xif, xic, xsw, xrf, xret, xrtl, xrtf, xrtd, xrta, xrtv, xfit, xnew, cond_true, cond_false, f40, f41, f42, f43, List.length_cons, List.length_nil, Nat.reduceAdd, Nat.reduceSub, Nat.reduceMul, Nat.reduceBEq, List.map_cons, List.map_nil, List.headD_cons, List.getElem?_cons_zero, List.getElem?_cons_succ, List.set_cons_zero, List.set_cons_succ]
    refine xai_of (by decide) rfl ?_
    try simp (disch := first | omega | (simp only [List.length_set]; omega)) only [nI_add, n_and, n_or, n_xor, n_i31, nI_leI, nI_ltI, n_e0, n_eq, n_m1e, n_l0, n_g0, n_p0, n_q0, n_cl, n_in, n_sub, n_shr, n_shl, n_div, bI_0, n_01, n_11, bI_or, not_false_eq_true, forall_const, not_true_eq_false, false_imp_iff, true_imp_iff, List.length_map, List.length_set, hN, nL_u, gs_eq, gs_ne, nI_set, Nat.reduceLT, true_and, and_true, pk_mul]
    refine xhv_of pl.obj ?_
    refine Ev_use (ev_longestGame _ p 5 w lg sh _ _ _ _ _ _ _ pl h1 h0) ?_
    dsimp only [hN1, hB, wpI, xop, xcall, xli, xlj, xlf, xld, xla, xlg, xst, xst2, xc1, pI, pJ, pF, pD, pR, pA, p1, p0, xpop, xpush, xsm, xhas, xif, xic, xsw, xrf, xret, xrtl, xrtf, xrtd, xrta, xrtv, xfit, xnew, cond_true, cond_false, f40, f41, f42, f43, List.length_cons, List.length_nil, Nat.reduceAdd, Nat.reduceSub, Nat.reduceMul, Nat.reduceBEq, List.map_cons, List.map_nil, List.headD_cons, List.getElem?_cons_zero, List.getElem?_cons_succ, List.set_cons_zero, List.set_cons_succ]
    refine hK 4 _ _ _ _ _ _ _ _ rfl ?_
    dsimp only [k_B_length_4, hN1, hB, wpI, xop, xcall, xli, xlj, xlf, xld, xla, xlg, xst, xst2, xc1, pI, pJ, pF, pD, pR, pA, p1, p0, xpop, xpush, xsm, xhas, xif, xic, xsw, xrf, xret, xrtl, xrtf, xrtd, xrta, xrtv, xfit, xnew, cond_true, cond_false, f40, f41, f42, f43, List.length_cons, List.length_nil, Nat.reduceAdd, Nat.reduceSub, Nat.reduceMul, Nat.reduceBEq, List.map_cons, List.map_nil, List.headD_cons, List.getElem?_cons_zero, List.getElem?_cons_succ, List.set_cons_zero, List.set_cons_succ]
    exact ⟨by decide, by decide, hq _ ⟨P', g', rfl, gk', ex⟩⟩
end
section
def pyrE (x : Int32) : Nat := if x = nI 0 ∨ x = nI 1 ∨ x = nI 2 ∨ x = nI 3 then 0 else 11
def pyrR (N : List Nat) (x : Int32) : Nat := if x = nI 0 then 132 else if x = nI 1 then cW (plN N) 0 132 0 0 else if x = nI 2 then cW (plN N) 1 132 0 0 else cO (plN N) 132 0 0
set_option maxRecDepth 100000 in
set_option maxHeartbeats 4000000 in
theorem ev_pyramids (d : Nat) (N V S C : List Nat) (P : List Value) (sv tl : Nat) (has : Bool) (g : xH) (x : Int32) (ok : stN N) (gk : gOk P g) :
    Ev xT (d + 6) N_B_pyramids [.ref 0, .int x] (hB N V S C P sv tl has g) (clQ N V S C sv tl has g (pyrE x) (some (.int (nI (pyrR N x))))) (Xo (pyrE x) (hB N V S C P sv tl has g)) := by
  refine Ev_intro t_B_pyramids (Nat.le_of_ble_eq_true rfl) ?_
  intro Q X hQ hX K hK
  show K 0 [some (.ref 0), some (.int x)] [] _ 0 0
  have hq := fun e h' q => hQ (some (.int (nI (pyrR N x)))) h' ⟨e, rfl, q⟩
  unfold pyrR at hq
  have e0 : x = nI 0 ∨ x = nI 1 ∨ x = nI 2 ∨ x = nI 3 → pyrE x = 0 := fun e => by unfold pyrE; rw [if_pos e]
  refine hK 0 _ _ _ _ _ _ _ _ rfl ?_
  dsimp only [k_B_pyramids_0, hN1, hB, wpI, xop, xcall, xli, xlj, xlf, xld, xla, xlg, xst, xst2, xc1, pI, pJ, pF, pD, pR, pA, p1, p0, xpop, xpush, xsm, xhas, xif, xic, xsw, xrf, xret, xrtl, xrtf, xrtd, xrta, xrtv, xfit, xnew, cond_true, cond_false, f40, f41, f42, f43, List.length_cons, List.length_nil, Nat.reduceAdd, Nat.reduceSub, Nat.reduceMul, Nat.reduceBEq, List.map_cons, List.map_nil, List.headD_cons, List.getElem?_cons_zero, List.getElem?_cons_succ, List.set_cons_zero, List.set_cons_succ, List.map]
  refine ⟨fun y => ?_, fun y0 => ⟨fun y => ?_, fun y1 => ⟨fun y => ?_, fun y2 => ⟨fun y => ?_, fun y3 => ?_⟩⟩⟩⟩
  · have hq := hq (e0 (Or.inl y))
    rw [if_pos y] at hq
    refine hK 1 _ _ _ _ _ _ _ _ rfl ?_
    dsimp only [k_B_pyramids_1, hN1, hB, wpI, xop, xcall, xli, xlj, xlf, xld, xla, xlg, xst, xst2, xc1, pI, pJ, pF, pD, pR, pA, p1, p0, xpop, xpush, xsm, xhas, xif, xic, xsw, xrf, xret, xrtl, xrtf, xrtd, xrta, xrtv, xfit, xnew, cond_true, cond_false, f40, f41, f42, f43, List.length_cons, List.length_nil, Nat.reduceAdd, Nat.reduceSub, Nat.reduceMul, Nat.reduceBEq, List.map_cons, List.map_nil, List.headD_cons, List.getElem?_cons_zero, List.getElem?_cons_succ, List.set_cons_zero, List.set_cons_succ]
    refine xhv_of rfl ?_
    dsimp only [hN1, hB, wpI, xop, xcall, xli, xlj, xlf, xld, xla, xlg, xst, xst2, xc1, pI, pJ, pF, pD, pR, pA, p1, p0, xpop, xpush, xsm, xhas, xif, xic, xsw, xrf, xret, xrtl, xrtf, xrtd, xrta, xrtv, xfit, xnew, cond_true, cond_false, f40, f41, f42, f43, List.length_cons, List.length_nil, Nat.reduceAdd, Nat.reduceSub, Nat.reduceMul, Nat.reduceBEq, List.map_cons, List.map_nil, List.headD_cons, List.getElem?_cons_zero, List.getElem?_cons_succ, List.set_cons_zero, List.set_cons_succ]
    refine xal_of (by decide) rfl ?_
    rw [List.length_map, shapes_len]
    exact ⟨by decide, by decide, hq _ ⟨P, g, rfl, gk, [], (List.append_nil g).symm⟩⟩
  · have hq := hq (e0 (Or.inr (Or.inl y)))
    rw [if_neg y0, if_pos y] at hq
    refine hK 2 _ _ _ _ _ _ _ _ rfl ?_
    dsimp only [k_B_pyramids_2, hN1, hB, wpI, xop, xcall, xli, xlj, xlf, xld, xla, xlg, xst, xst2, xc1, pI, pJ, pF, pD, pR, pA, p1, p0, xpop, xpush, xsm, xhas, xif, xic, xsw, xrf, xret, xrtl, xrtf, xrtd, xrta, xrtv, xfit, xnew, cond_true, cond_false, f40, f41, f42, f43, List.length_cons, List.length_nil, Nat.reduceAdd, Nat.reduceSub, Nat.reduceMul, Nat.reduceBEq, List.map_cons, List.map_nil, List.headD_cons, List.getElem?_cons_zero, List.getElem?_cons_succ, List.set_cons_zero, List.set_cons_succ]
    refine ⟨by trivial, by decide, by decide, ⟨wr (by omega), trivial, trivial⟩, trivial, ?_⟩
    refine Ev_of (ev_play _ N V S C P sv tl has g ok gk) ?_
    rintro v h' ⟨p, w, lg, sh, P', g', rfl, rfl, gk', pl, ex⟩
    dsimp only [hN1, hB, wpI, xop, xcall, xli, xlj, xlf, xld, xla, xlg, xst, xst2, xc1, pI, pJ, pF, pD, pR, pA, p1, p0, xpop, xpush, xsm, xhas, xif, xic, xsw, xrf, xret, xrtl, xrtf, xrtd, xrta, xrtv, xfit, xnew, cond_true, cond_false, f40, f41, f42, f43, List.length_cons, List.length_nil, Nat.reduceAdd, Nat.reduceSub, Nat.reduceMul, Nat.reduceBEq, List.map_cons, List.map_nil, List.headD_cons, List.getElem?_cons_zero, List.getElem?_cons_succ, List.set_cons_zero, List.set_cons_succ]
    refine xhv_of pl.obj ?_
    refine Ev_use (ev_shapesWonBy _ p 5 w lg sh _ 0 _ _ _ _ pl (by decide)) ?_
    exact ⟨by decide, by decide, hq _ ⟨P', g', rfl, gk', ex⟩⟩
  · have hq := hq (e0 (Or.inr (Or.inr (Or.inl y))))
    rw [if_neg y0, if_neg y1, if_pos y] at hq
    refine hK 3 _ _ _ _ _ _ _ _ rfl ?_
    dsimp only [k_B_pyramids_3, hN1, hB, wpI, xop, xcall, xli, xlj, xlf, xld, xla, xlg, xst, xst2, xc1, pI, pJ, pF, pD, pR, pA, p1, p0, xpop, xpush, xsm, xhas, xif, xic, xsw, xrf, xret, xrtl, xrtf, xrtd, xrta, xrtv, xfit, xnew, cond_true, cond_false, f40, f41, f42, f43, List.length_cons, List.length_nil, Nat.reduceAdd, Nat.reduceSub, Nat.reduceMul, Nat.reduceBEq, List.map_cons, List.map_nil, List.headD_cons, List.getElem?_cons_zero, List.getElem?_cons_succ, List.set_cons_zero, List.set_cons_succ]
    refine ⟨by trivial, by decide, by decide, ⟨wr (by omega), trivial, trivial⟩, trivial, ?_⟩
    refine Ev_of (ev_play _ N V S C P sv tl has g ok gk) ?_
    rintro v h' ⟨p, w, lg, sh, P', g', rfl, rfl, gk', pl, ex⟩
    dsimp only [hN1, hB, wpI, xop, xcall, xli, xlj, xlf, xld, xla, xlg, xst, xst2, xc1, pI, pJ, pF, pD, pR, pA, p1, p0, xpop, xpush, xsm, xhas, xif, xic, xsw, xrf, xret, xrtl, xrtf, xrtd, xrta, xrtv, xfit, xnew, cond_true, cond_false, f40, f41, f42, f43, List.length_cons, List.length_nil, Nat.reduceAdd, Nat.reduceSub, Nat.reduceMul, Nat.reduceBEq, List.map_cons, List.map_nil, List.headD_cons, List.getElem?_cons_zero, List.getElem?_cons_succ, List.set_cons_zero, List.set_cons_succ]
    refine xhv_of pl.obj ?_
    refine Ev_use (ev_shapesWonBy _ p 5 w lg sh _ 1 _ _ _ _ pl (by decide)) ?_
    exact ⟨by decide, by decide, hq _ ⟨P', g', rfl, gk', ex⟩⟩
  · have hq := hq (e0 (Or.inr (Or.inr (Or.inr y))))
    rw [if_neg y0, if_neg y1, if_neg y2] at hq
    refine hK 4 _ _ _ _ _ _ _ _ rfl ?_
    dsimp only [k_B_pyramids_4, hN1, hB, wpI, xop, xcall, xli, xlj, xlf, xld, xla, xlg, xst, xst2, xc1, pI, pJ, pF, pD, pR, pA, p1, p0, xpop, xpush, xsm, xhas, xif, xic, xsw, xrf, xret, xrtl, xrtf, xrtd, xrta, xrtv, xfit, xnew, cond_true, cond_false, f40, f41, f42, f43, List.length_cons, List.length_nil, Nat.reduceAdd, Nat.reduceSub, Nat.reduceMul, Nat.reduceBEq, List.map_cons, List.map_nil, List.headD_cons, List.getElem?_cons_zero, List.getElem?_cons_succ, List.set_cons_zero, List.set_cons_succ]
    refine ⟨by trivial, by decide, by decide, ⟨wr (by omega), trivial, trivial⟩, trivial, ?_⟩
    refine Ev_of (ev_play _ N V S C P sv tl has g ok gk) ?_
    rintro v h' ⟨p, w, lg, sh, P', g', rfl, rfl, gk', pl, ex⟩
    dsimp only [hN1, hB, wpI, xop, xcall, xli, xlj, xlf, xld, xla, xlg, xst, xst2, xc1, pI, pJ, pF, pD, pR, pA, p1, p0, xpop, xpush, xsm, xhas, xif, xic, xsw, xrf, xret, xrtl, xrtf, xrtd, xrta, xrtv, xfit, xnew, cond_true, cond_false, f40, f41, f42, f43, List.length_cons, List.length_nil, Nat.reduceAdd, Nat.reduceSub, Nat.reduceMul, Nat.reduceBEq, List.map_cons, List.map_nil, List.headD_cons, List.getElem?_cons_zero, List.getElem?_cons_succ, List.set_cons_zero, List.set_cons_succ]
    refine xhv_of pl.obj ?_
    refine Ev_use (ev_shapesOver _ p 5 w lg sh _ _ _ _ _ pl (fun i => Nat.lt_of_le_of_lt ((plT_B _ _ _).1 i) (by decide))) ?_
    exact ⟨by decide, by decide, hq _ ⟨P', g', rfl, gk', ex⟩⟩
  · have e : pyrE x = 11 := by
      unfold pyrE
      rw [if_neg]
      rintro (q | q | q | q)
      · exact y0 q
      · exact y1 q
      · exact y2 q
      · exact y3 q
    refine hK 5 _ _ _ _ _ _ _ _ rfl ?_
    dsimp only [k_B_pyramids_5, hN1, hB, wpI, xop, xcall, xli, xlj, xlf, xld, xla, xlg, xst, xst2, xc1, pI, pJ, pF, pD, pR, pA, p1, p0, xpop, xpush, xsm, xhas, xif, xic, xsw, xrf, xret, xrtl, xrtf, xrtd, xrta, xrtv, xfit, xnew, cond_true, cond_false, f40, f41, f42, f43, List.length_cons, List.length_nil, Nat.reduceAdd, Nat.reduceSub, Nat.reduceMul, Nat.reduceBEq, List.map_cons, List.map_nil, List.headD_cons, List.getElem?_cons_zero, List.getElem?_cons_succ, List.set_cons_zero, List.set_cons_succ]
    exact ⟨by decide, by decide, hX _ _ ⟨by rw [e]; decide, e.symm, rfl⟩⟩
/-- the first theft of a row that wins -/
def beB (N : List Nat) (r : Nat) : Nat → Nat → Option Nat
  | 0, _ => none
  | j + 1, b => if rsnN N r b = 0 then (if wonB (plN N) (1 - N.getD 1 0) (settledN (robN (N.getD 0 0) (N.getD 1 0) r b).1) = true then beB N r j (b + 1) else some (10 * r + b)) else beB N r j (b + 1)
def beR (N : List Nat) : Nat → Nat → Option Nat
  | 0, _ => none
  | j + 1, r => (beB N r (N.getD 3 0) 1).or (beR N j (r + 1))
set_option maxRecDepth 100000 in
set_option maxHeartbeats 4000000 in
theorem ev_best (d : Nat) (N V S C : List Nat) (P : List Value) (sv tl : Nat) (has : Bool) (g : xH) (ok : stN N) (gk : gOk P g) :
    Ev xT (d + 6) N_B_best [.ref 0] (hB N V S C P sv tl has g) (clQ N V S C sv tl has g 0 (some (.int (oI (beR N 5 0))))) NX := by
  refine Ev_intro t_B_best (Nat.le_of_ble_eq_true rfl) ?_
  intro Q X hQ hX K hK
  show K 0 [some (.ref 0), none, none, none, none] [] _ 0 0
  have ok' := ok
  obtain ⟨hN, h0, h1, h3, h3', h4, h5⟩ := ok
  refine hK 0 _ _ _ _ _ _ _ _ rfl ?_
  dsimp only [k_B_best_0, hN1, hB, wpI, xop, xcall, xli, xlj, xlf, xld, xla, xlg, xst, xst2, xc1, pI, pJ, pF, pD, pR, pA, p1, p0, xpop, xpush, xsm, xhas, xif, xic, xsw, xrf, xret, xrtl, xrtf, xrtd, xrta, xrtv, xfit, xnew, cond_true, cond_false, f40, f41, f42, f43, List.length_cons, List.length_nil, Nat.reduceAdd, Nat.reduceSub, Nat.reduceMul, Nat.reduceBEq, List.map_cons, List.map_nil, List.headD_cons, List.getElem?_cons_zero, List.getElem?_cons_succ, List.set_cons_zero, List.set_cons_succ]
  refine ⟨by trivial, by decide, by decide, ⟨wr (by omega), trivial⟩, trivial, ?_⟩
  refine Ev_of (ev_play _ N V S C P sv tl has g ok' gk) ?_
  rintro v h' ⟨p, w, lg, sh, P', g', rfl, rfl, gk', pl, ex⟩
  have hq := hQ (some (.int (oI (beR N 5 0)))) _ ⟨rfl, rfl, P', g', rfl, gk', ex⟩
  have loop2 : ∀ (j b r : Nat), b + j = N.getD 3 0 + 1 → r < 5 → (∀ x, beB N r j b = some x → Q (some (.int (nI x))) (hB N V S C P' sv tl has g')) →
      (beB N r j b = none → ∀ L4, K 4 [some (.ref 0), some (.ref p), some (.int (nI (1 - N.getD 1 0))), some (.int (nI r)), L4] [] (hB N V S C P' sv tl has g') 4 799) →
      K 2 [some (.ref 0), some (.ref p), some (.int (nI (1 - N.getD 1 0))), some (.int (nI r)), some (.int (nI b))] [] (hB N V S C P' sv tl has g') 4 799 := by
    intro j
    induction j with
    | zero =>
      intro b r hb hr hs hn
      refine hK 2 _ _ _ _ _ _ _ _ rfl ?_
      dsimp only [k_B_best_2, hN1, hB, wpI, xop, xcall, xli, xlj, xlf, xld, xla, xlg, xst, xst2, xc1, pI, pJ, pF, pD, pR, pA, p1, p0, xpop, xpush, xsm, xhas, xif, xic, xsw, xrf, xret, xrtl, xrtf, xrtd, xrta, xrtv, xfit, xnew, cond_true, cond_false, f40, f41, f42, f43, List.length_cons, List.length_nil, Nat.reduceAdd, Nat.reduceSub, Nat.reduceMul, Nat.reduceBEq, List.map_cons, List.map_nil, List.headD_cons, List.getElem?_cons_zero, List.getElem?_cons_succ, List.set_cons_zero, List.set_cons_succ]
      refine xhv_of rfl ?_
      dsimp only [hN1, hB, wpI, xop, xcall, xli, xlj, xlf, xld, xla, xlg, xst, xst2, xc1, pI, pJ, pF, pD, pR, pA, p1, p0, xpop, xpush, xsm, xhas, xif, xic, xsw, xrf, xret, xrtl, xrtf, xrtd, xrta, xrtv, xfit, xnew, cond_true, cond_false, f40, f41, f42, f43, List.length_cons, List.length_nil, Nat.reduceAdd, Nat.reduceSub, Nat.reduceMul, Nat.reduceBEq, List.map_cons, List.map_nil, List.headD_cons, List.getElem?_cons_zero, List.getElem?_cons_succ, List.set_cons_zero, List.set_cons_succ]
      refine xai_of (by decide) rfl ?_
      try simp (disch := first | omega | (simp only [List.length_set]; omega)) only [nI_add, n_and, n_or, n_xor, n_i31, nI_leI, nI_ltI, n_e0, n_eq, n_m1e, n_l0, n_g0, n_p0, n_q0, n_cl, n_in, n_sub, n_shr, n_shl, n_div, bI_0, n_01, n_11, bI_or, not_false_eq_true, forall_const, not_true_eq_false, false_imp_iff, true_imp_iff, List.length_map, List.length_set, hN, nL_u, gs_eq, gs_ne, nI_set, Nat.reduceLT, true_and, and_true, pk_mul]
      exact br_t (by omega) (hn rfl _)
    | succ j ih =>
      intro b r hb hr hs hn
      rw [beB] at hs hn
      have hz := rsn_lt N r b
      have go3 : beB N r j (b + 1) = beB N r (j + 1) b → K 3 [some (.ref 0), some (.ref p), some (.int (nI (1 - N.getD 1 0))), some (.int (nI r)), some (.int (nI b))] [] (hB N V S C P' sv tl has g') 4 799 := by
        intro e
        rw [beB] at e
        rw [← e] at hs hn
        refine hK 3 _ _ _ _ _ _ _ _ rfl ?_
        dsimp only [k_B_best_3, hN1, hB, wpI, xop, xcall, xli, xlj, xlf, xld, xla, xlg, xst, xst2, xc1, pI, pJ, pF, pD, pR, pA, p1, p0, xpop, xpush, xsm, xhas, xif, xic, xsw, xrf, xret, xrtl, xrtf, xrtd, xrta, xrtv, xfit, xnew, cond_true, cond_false, f40, f41, f42, f43, List.length_cons, List.length_nil, Nat.reduceAdd, Nat.reduceSub, Nat.reduceMul, Nat.reduceBEq, List.map_cons, List.map_nil, List.headD_cons, List.getElem?_cons_zero, List.getElem?_cons_succ, List.set_cons_zero, List.set_cons_succ]
        try simp (disch := omega) only [nI_add, n_and, n_or, n_xor, n_i31, nI_leI, nI_ltI, n_e0, n_eq, n_m1e, n_l0, n_g0, n_p0, n_q0, n_cl, n_in, n_sub, n_shr, n_shl, n_div, bI_0, n_01, n_11, bI_or, not_false_eq_true, forall_const, not_true_eq_false, false_imp_iff, true_imp_iff]
        exact ih (b + 1) r (by omega) hr hs hn
      refine hK 2 _ _ _ _ _ _ _ _ rfl ?_
      dsimp only [k_B_best_2, hN1, hB, wpI, xop, xcall, xli, xlj, xlf, xld, xla, xlg, xst, xst2, xc1, pI, pJ, pF, pD, pR, pA, p1, p0, xpop, xpush, xsm, xhas, xif, xic, xsw, xrf, xret, xrtl, xrtf, xrtd, xrta, xrtv, xfit, xnew, cond_true, cond_false, f40, f41, f42, f43, List.length_cons, List.length_nil, Nat.reduceAdd, Nat.reduceSub, Nat.reduceMul, Nat.reduceBEq, List.map_cons, List.map_nil, List.headD_cons, List.getElem?_cons_zero, List.getElem?_cons_succ, List.set_cons_zero, List.set_cons_succ]
      refine xhv_of rfl ?_
      dsimp only [hN1, hB, wpI, xop, xcall, xli, xlj, xlf, xld, xla, xlg, xst, xst2, xc1, pI, pJ, pF, pD, pR, pA, p1, p0, xpop, xpush, xsm, xhas, xif, xic, xsw, xrf, xret, xrtl, xrtf, xrtd, xrta, xrtv, xfit, xnew, cond_true, cond_false, f40, f41, f42, f43, List.length_cons, List.length_nil, Nat.reduceAdd, Nat.reduceSub, Nat.reduceMul, Nat.reduceBEq, List.map_cons, List.map_nil, List.headD_cons, List.getElem?_cons_zero, List.getElem?_cons_succ, List.set_cons_zero, List.set_cons_succ]
      refine xai_of (by decide) rfl ?_
      try simp (disch := first | omega | (simp only [List.length_set]; omega)) only [nI_add, n_and, n_or, n_xor, n_i31, nI_leI, nI_ltI, n_e0, n_eq, n_m1e, n_l0, n_g0, n_p0, n_q0, n_cl, n_in, n_sub, n_shr, n_shl, n_div, bI_0, n_01, n_11, bI_or, not_false_eq_true, forall_const, not_true_eq_false, false_imp_iff, true_imp_iff, List.length_map, List.length_set, hN, nL_u, gs_eq, gs_ne, nI_set, Nat.reduceLT, true_and, and_true, pk_mul]
      refine br_f (by omega) ?_
      refine xhv_of rfl ?_
      refine Ev_use (ev_reasonAgainst _ N _ _ r b ok' hr (by omega)) ?_
      dsimp only [hN1, hB, wpI, xop, xcall, xli, xlj, xlf, xld, xla, xlg, xst, xst2, xc1, pI, pJ, pF, pD, pR, pA, p1, p0, xpop, xpush, xsm, xhas, xif, xic, xsw, xrf, xret, xrtl, xrtf, xrtd, xrta, xrtv, xfit, xnew, cond_true, cond_false, f40, f41, f42, f43, List.length_cons, List.length_nil, Nat.reduceAdd, Nat.reduceSub, Nat.reduceMul, Nat.reduceBEq, List.map_cons, List.map_nil, List.headD_cons, List.getElem?_cons_zero, List.getElem?_cons_succ, List.set_cons_zero, List.set_cons_succ]
      try simp (disch := first | omega | (simp only [List.length_set]; omega)) only [nI_add, n_and, n_or, n_xor, n_i31, nI_leI, nI_ltI, n_e0, n_eq, n_m1e, n_l0, n_g0, n_p0, n_q0, n_cl, n_in, n_sub, n_shr, n_shl, n_div, bI_0, n_01, n_11, bI_or, not_false_eq_true, forall_const, not_true_eq_false, false_imp_iff, true_imp_iff, List.length_map, List.length_set, hN, nL_u, gs_eq, gs_ne, nI_set, Nat.reduceLT, true_and, and_true, pk_mul]
      refine ⟨fun y => go3 (by rw [beB, if_neg y]), fun y => ?_⟩
      refine xhv_of rfl ?_
      refine Ev_use (ev_maskBehind _ N _ _ r b ok' hr (by omega) (rsn_z y)) ?_
      dsimp only [hN1, hB, wpI, xop, xcall, xli, xlj, xlf, xld, xla, xlg, xst, xst2, xc1, pI, pJ, pF, pD, pR, pA, p1, p0, xpop, xpush, xsm, xhas, xif, xic, xsw, xrf, xret, xrtl, xrtf, xrtd, xrta, xrtv, xfit, xnew, cond_true, cond_false, f40, f41, f42, f43, List.length_cons, List.length_nil, Nat.reduceAdd, Nat.reduceSub, Nat.reduceMul, Nat.reduceBEq, List.map_cons, List.map_nil, List.headD_cons, List.getElem?_cons_zero, List.getElem?_cons_succ, List.set_cons_zero, List.set_cons_succ]
      refine xhv_of pl.obj ?_
      refine Ev_use (ev_isWonBy _ p 5 w lg sh _ _ _ _ _ _ _ pl (by omega) (settled_lt (rob_lt h0))) ?_
      dsimp only [hN1, hB, wpI, xop, xcall, xli, xlj, xlf, xld, xla, xlg, xst, xst2, xc1, pI, pJ, pF, pD, pR, pA, p1, p0, xpop, xpush, xsm, xhas, xif, xic, xsw, xrf, xret, xrtl, xrtf, xrtd, xrta, xrtv, xfit, xnew, cond_true, cond_false, f40, f41, f42, f43, List.length_cons, List.length_nil, Nat.reduceAdd, Nat.reduceSub, Nat.reduceMul, Nat.reduceBEq, List.map_cons, List.map_nil, List.headD_cons, List.getElem?_cons_zero, List.getElem?_cons_succ, List.set_cons_zero, List.set_cons_succ]
      rw [bI_0]
      refine ⟨fun y2 => go3 (by rw [beB, if_pos y, if_pos (b_nf y2)]), fun y2 => ?_⟩
      rw [if_pos y, if_neg (by rw [y2]; decide)] at hs
      exact ⟨by decide, by decide, hs _ rfl⟩
  have loop1 : ∀ (j r : Nat) (L4 : Option Value), r + j = 5 → Q (some (.int (oI (beR N j r)))) (hB N V S C P' sv tl has g') →
      K 1 [some (.ref 0), some (.ref p), some (.int (nI (1 - N.getD 1 0))), some (.int (nI r)), L4] [] (hB N V S C P' sv tl has g') 4 799 := by
    intro j
    induction j with
    | zero =>
      intro r L4 hr hq
      obtain rfl : r = 5 := by omega
      refine hK 1 _ _ _ _ _ _ _ _ rfl ?_
      dsimp only [k_B_best_1, hN1, hB, wpI, xop, xcall, xli, xlj, xlf, xld, xla, xlg, xst, xst2, xc1, pI, pJ, pF, pD, pR, pA, p1, p0, xpop, xpush, xsm, xhas, xif, xic, xsw, xrf, xret, xrtl, xrtf, xrtd, xrta, xrtv, xfit, xnew, cond_true, cond_false, f40, f41, f42, f43, List.length_cons, List.length_nil, Nat.reduceAdd, Nat.reduceSub, Nat.reduceMul, Nat.reduceBEq, List.map_cons, List.map_nil, List.headD_cons, List.getElem?_cons_zero, List.getElem?_cons_succ, List.set_cons_zero, List.set_cons_succ]
      refine br_t (by decide) ?_
      refine hK 5 _ _ _ _ _ _ _ _ rfl ?_
      dsimp only [k_B_best_5, hN1, hB, wpI, xop, xcall, xli, xlj, xlf, xld, xla, xlg, xst, xst2, xc1, pI, pJ, pF, pD, pR, pA, p1, p0, xpop, xpush, xsm, xhas, xif, xic, xsw, xrf, xret, xrtl, xrtf, xrtd, xrta, xrtv, xfit, xnew, cond_true, cond_false, f40, f41, f42, f43, List.length_cons, List.length_nil, Nat.reduceAdd, Nat.reduceSub, Nat.reduceMul, Nat.reduceBEq, List.map_cons, List.map_nil, List.headD_cons, List.getElem?_cons_zero, List.getElem?_cons_succ, List.set_cons_zero, List.set_cons_succ]
      exact ⟨by decide, by decide, hq⟩
    | succ j ih =>
      intro r L4 hr hq
      rw [beR] at hq
      refine hK 1 _ _ _ _ _ _ _ _ rfl ?_
      dsimp only [k_B_best_1, hN1, hB, wpI, xop, xcall, xli, xlj, xlf, xld, xla, xlg, xst, xst2, xc1, pI, pJ, pF, pD, pR, pA, p1, p0, xpop, xpush, xsm, xhas, xif, xic, xsw, xrf, xret, xrtl, xrtf, xrtd, xrta, xrtv, xfit, xnew, cond_true, cond_false, f40, f41, f42, f43, List.length_cons, List.length_nil, Nat.reduceAdd, Nat.reduceSub, Nat.reduceMul, Nat.reduceBEq, List.map_cons, List.map_nil, List.headD_cons, List.getElem?_cons_zero, List.getElem?_cons_succ, List.set_cons_zero, List.set_cons_succ]
      try simp (disch := omega) only [nI_add, n_and, n_or, n_xor, n_i31, nI_leI, nI_ltI, n_e0, n_eq, n_m1e, n_l0, n_g0, n_p0, n_q0, n_cl, n_in, n_sub, n_shr, n_shl, n_div, bI_0, n_01, n_11, bI_or, not_false_eq_true, forall_const, not_true_eq_false, false_imp_iff, true_imp_iff]
      refine br_f (by omega) ?_
      refine loop2 (N.getD 3 0) 1 r (by omega) (by omega) (fun x e => ?_) fun e L4 => ?_
      · rw [e] at hq
        exact hq
      · rw [e] at hq
        refine hK 4 _ _ _ _ _ _ _ _ rfl ?_
        dsimp only [k_B_best_4, hN1, hB, wpI, xop, xcall, xli, xlj, xlf, xld, xla, xlg, xst, xst2, xc1, pI, pJ, pF, pD, pR, pA, p1, p0, xpop, xpush, xsm, xhas, xif, xic, xsw, xrf, xret, xrtl, xrtf, xrtd, xrta, xrtv, xfit, xnew, cond_true, cond_false, f40, f41, f42, f43, List.length_cons, List.length_nil, Nat.reduceAdd, Nat.reduceSub, Nat.reduceMul, Nat.reduceBEq, List.map_cons, List.map_nil, List.headD_cons, List.getElem?_cons_zero, List.getElem?_cons_succ, List.set_cons_zero, List.set_cons_succ]
        try simp (disch := omega) only [nI_add, n_and, n_or, n_xor, n_i31, nI_leI, nI_ltI, n_e0, n_eq, n_m1e, n_l0, n_g0, n_p0, n_q0, n_cl, n_in, n_sub, n_shr, n_shl, n_div, bI_0, n_01, n_11, bI_or, not_false_eq_true, forall_const, not_true_eq_false, false_imp_iff, true_imp_iff]
        exact ih (r + 1) _ (by omega) hq
  dsimp only [hN1, hB, wpI, xop, xcall, xli, xlj, xlf, xld, xla, xlg, xst, xst2, xc1, pI, pJ, pF, pD, pR, pA, p1, p0, xpop, xpush, xsm, xhas, xif, xic, xsw, xrf, xret, xrtl, xrtf, xrtd, xrta, xrtv, xfit, xnew, cond_true, cond_false, f40, f41, f42, f43, List.length_cons, List.length_nil, Nat.reduceAdd, Nat.reduceSub, Nat.reduceMul, Nat.reduceBEq, List.map_cons, List.map_nil, List.headD_cons, List.getElem?_cons_zero, List.getElem?_cons_succ, List.set_cons_zero, List.set_cons_succ]
  refine xhv_of rfl ?_
  dsimp only [hN1, hB, wpI, xop, xcall, xli, xlj, xlf, xld, xla, xlg, xst, xst2, xc1, pI, pJ, pF, pD, pR, pA, p1, p0, xpop, xpush, xsm, xhas, xif, xic, xsw, xrf, xret, xrtl, xrtf, xrtd, xrta, xrtv, xfit, xnew, cond_true, cond_false, f40, f41, f42, f43, List.length_cons, List.length_nil, Nat.reduceAdd, Nat.reduceSub, Nat.reduceMul, Nat.reduceBEq, List.map_cons, List.map_nil, List.headD_cons, List.getElem?_cons_zero, List.getElem?_cons_succ, List.set_cons_zero, List.set_cons_succ]
  refine xai_of (by decide) rfl ?_
  try simp (disch := first | omega | (simp only [List.length_set]; omega)) only [nI_add, n_and, n_or, n_xor, n_i31, nI_leI, nI_ltI, n_e0, n_eq, n_m1e, n_l0, n_g0, n_p0, n_q0, n_cl, n_in, n_sub, n_shr, n_shl, n_div, bI_0, n_01, n_11, bI_or, not_false_eq_true, forall_const, not_true_eq_false, false_imp_iff, true_imp_iff, List.length_map, List.length_set, hN, nL_u, gs_eq, gs_ne, nI_set, Nat.reduceLT, true_and, and_true, pk_mul]
  exact loop1 5 0 _ rfl hq
end
section
/-! ===== the class: parts of the digest ===== -/
set_option maxRecDepth 100000 in
set_option maxHeartbeats 4000000 in
theorem ev_row0 (d : Nat) (N : List Nat) (vs : List Value) (g : xH) (r k : Nat) (ok : stN N) (hr : r < 5) (hk : k < 6) : Ev xT (d + 5) N_B_row [.ref 0, .int (nI r), .int (nI k)] (hN1 N vs g) (Rt (some (.int (rowR N r (nI k)))) (hN1 N vs g)) NX := by
  have key : ∀ r, r < 5 → ∀ k, k < 6 → rowE (nI r) (nI k) = 0 := by decide +kernel
  have h := ev_row d N vs g (nI r) (nI k) ok
  rw [n_cl (by omega)] at h
  exact Ev_mono h (fun v g q => ⟨q.2.1, q.2.2⟩) (fun _ g q => absurd (key r hr k hk) q.1)
set_option maxRecDepth 100000 in
set_option maxHeartbeats 4000000 in
theorem ev_why0 (d : Nat) (N : List Nat) (vs : List Value) (g : xH) (r k : Nat) (ok : stN N) (hr : r < 5) (hk : k < 3) : Ev xT (d + 4) N_B_why [.ref 0, .int (nI r), .int (nI (k + 1))] (hN1 N vs g) (Rt (some (.int (nI (rsnN N r (k + 1))))) (hN1 N vs g)) NX := by
  have key : ∀ r, r < 5 → ∀ k, k < 3 → whyE (nI r) (nI (k + 1)) = 0 := by decide +kernel
  have h := ev_why d N vs g (nI r) (nI (k + 1)) ok
  rw [n_cl (by omega), n_cl (by omega)] at h
  exact Ev_mono h (fun v g q => ⟨q.2.1, q.2.2⟩) (fun _ g q => absurd (key r hr k hk) q.1)
set_option maxRecDepth 100000 in
set_option maxHeartbeats 4000000 in
theorem ev_falls0 (d : Nat) (N : List Nat) (vs : List Value) (g : xH) (r k : Nat) (ok : stN N) (hr : r < 5) (hk : k < 3) : Ev xT (d + 4) N_B_falls [.ref 0, .int (nI r), .int (nI (k + 1))] (hN1 N vs g) (Rt (some (.int (fallI (N.getD 0 0) (N.getD 1 0) r (k + 1)))) (hN1 N vs g)) NX := by
  have key : ∀ r, r < 5 → ∀ k, k < 3 → whyE (nI r) (nI (k + 1)) = 0 := by decide +kernel
  have h := ev_falls d N vs g (nI r) (nI (k + 1)) ok
  rw [n_cl (by omega), n_cl (by omega)] at h
  exact Ev_mono h (fun v g q => ⟨q.2.1, q.2.2⟩) (fun _ g q => absurd (key r hr k hk) q.1)
end
section
/-! ===== the class: a new object ===== -/
def N00 : List Nat := ((List.replicate 18 0).set 0 32767).set 3 1
set_option maxRecDepth 100000 in
set_option maxHeartbeats 4000000 in
theorem ev_B_init (d : Nat) : Ev xT (d + 9) N_B_init [.ref 0] [(6, [], [.null, .null, .int 0, .null, .int 0, .null, .int 0, .null, .null])] (Rt none (hB N00 (List.replicate 108 0) (List.replicate 18 0) (List.replicate 60 0) (List.replicate 12 .null) 0 0 false [])) NX := by
  refine Ev_intro t_B_init (Nat.le_of_ble_eq_true rfl) ?_
  intro Q X hQ hX K hK
  show K 0 [some (.ref 0)] [] _ 0 0
  have hq := hQ _ _ ⟨rfl, rfl⟩
  have c18 : (nI 18).toNatClampNeg = 18 := by decide +kernel
  have c108 : (nI 108).toNatClampNeg = 108 := by decide +kernel
  have c60 : (nI 60).toNatClampNeg = 60 := by decide +kernel
  have c12 : (nI 12).toNatClampNeg = 12 := by decide +kernel
  refine hK 0 _ _ _ _ _ _ _ _ rfl ?_
  dsimp only [k_B_init_0, hN1, hB, wpI, xop, xcall, xli, xlj, xlf, xld, xla, xlg, xst, xst2, xc1, pI, pJ, pF, pD, pR, pA, p1, p0, xpop, xpush, xsm, xhas, xif, xic, xsw, xai, xal, xhi, xhv, xrf, xret, xrtl, xrtf, xrtd, xrta, xrtv, xfit, xnew, cond_true, cond_false, f40, f41, f42, f43, List.length_cons, List.length_nil, Nat.reduceAdd, Nat.reduceSub, Nat.reduceMul, Nat.reduceBEq, List.map_cons, List.map_nil, List.headD_cons, List.getElem?_cons_zero, List.getElem?_cons_succ, List.set_cons_zero, List.set_cons_succ, xtag, List.cons_append, List.nil_append]
  rw [c18, c108, c60]
  refine ⟨by decide, by decide, by trivial, by decide, by decide, by decide, ⟨wr (by decide), trivial⟩, ⟨wr (by decide), trivial⟩, by simp [xwH, xwS, wfv], ?_⟩
  refine ⟨by decide, by decide, by trivial, by decide, by decide, by decide, ⟨wr (by decide), trivial⟩, ⟨wr (by decide), trivial⟩, by simp [xwH, xwS, wfv], ?_⟩
  refine ⟨by decide, by decide, by trivial, by decide, by decide, by decide, ⟨wr (by decide), trivial⟩, ⟨wr (by decide), trivial⟩, by simp [xwH, xwS, wfv], ?_⟩
  refine ⟨Or.inl rfl, ?_⟩
  refine ⟨by decide, by decide, by trivial, by decide, by decide, by decide, ⟨wr (by decide), trivial⟩, ⟨wr (by decide), trivial⟩, by simp [xwH, xwS, wfv], ?_⟩
  refine ⟨by trivial, by decide, by decide, ⟨wr (by decide), trivial⟩, ⟨wr (by decide), trivial⟩, ?_⟩
  refine Ev_use (ev_allShapes _ _ (by decide) (by simp [xwH, xwS, wfv])) ?_
  dsimp only [hN1, hB, wpI, xop, xcall, xli, xlj, xlf, xld, xla, xlg, xst, xst2, xc1, pI, pJ, pF, pD, pR, pA, p1, p0, xpop, xpush, xsm, xhas, xif, xic, xsw, xai, xal, xhi, xhv, xrf, xret, xrtl, xrtf, xrtd, xrta, xrtv, xfit, xnew, cond_true, cond_false, f40, f41, f42, f43, List.length_cons, List.length_nil, Nat.reduceAdd, Nat.reduceSub, Nat.reduceMul, Nat.reduceBEq, List.map_cons, List.map_nil, List.headD_cons, List.getElem?_cons_zero, List.getElem?_cons_succ, List.set_cons_zero, List.set_cons_succ, xtag, List.cons_append, List.nil_append]
  rw [c12]
  refine ⟨by decide, by decide, by trivial, by decide, by decide, by decide, ⟨wr (by decide), trivial⟩, ⟨wr (by decide), trivial⟩, by simp [xwH, xwS, wfv], ?_⟩
  have e1 : ((List.replicate 18 (0 : Int32)).set (nI 0).toNatClampNeg (nI 32767)).set (nI 3).toNatClampNeg (nI 1) = N00.map nI := by decide +kernel
  have e2 : ∀ n, List.replicate n (0 : Int32) = (List.replicate n 0).map nI := fun n => by rw [List.map_replicate]; rfl
  refine ⟨(n_in (by decide)).mpr (by decide), (n_in (by decide)).mpr (by decide), by decide, by decide, ?_⟩
  rw [e1, e2 108, e2 18, e2 60]
  exact hq
end
section
/-! ===== the class: wonShare ===== -/
theorem cW_le (T : xTb) (t : Nat) : ∀ (j i s : Nat), cW T t j i s ≤ s + j
  | 0, _, _ => Nat.le_refl _
  | j + 1, i, s => by
    have h := cW_le T t j (i + 1) (s + if T.1.getD (2 * i + t) false then 1 else 0)
    rw [cW]
    refine Nat.le_trans h ?_
    split <;> omega
def wsF (k : Nat) : UInt32 := FP.fdiv (FP.i2f (nI k)) (FP.i2f (nI 132))
theorem wsF_n {k : Nat} (h : k ≤ 132) : vf_n32 (wsF k) := by
  have key : (List.range 133).all (fun k => decide (wsF k &&& 0x7fffffff ≤ 0x7f800000)) = true := by decide +kernel
  exact of_decide_eq_true (p := wsF k &&& 0x7fffffff ≤ 0x7f800000) (List.all_eq_true.mp key k (List.mem_range.mpr (by omega)))
set_option maxRecDepth 100000 in
set_option maxHeartbeats 4000000 in
theorem ev_wonShare (d : Nat) (N V S C : List Nat) (P : List Value) (sv tl : Nat) (has : Bool) (g : xH) (ok : stN N) (gk : gOk P g) :
    Ev xT (d + 6) N_B_wonShare [.ref 0] (hB N V S C P sv tl has g) (clQ N V S C sv tl has g 0 (some (.float (wsF (cW (plN N) (N.getD 1 0) 132 0 0))))) NX := by
  refine Ev_intro t_B_wonShare (Nat.le_of_ble_eq_true rfl) ?_
  intro Q X hQ hX K hK
  show K 0 [some (.ref 0), none] [] _ 0 0
  have ok' := ok
  obtain ⟨hN, h0, h1, h3, h3', h4, h5⟩ := ok
  have hq := fun h' q => hQ (some (.float (wsF (cW (plN N) (N.getD 1 0) 132 0 0)))) h' ⟨rfl, rfl, q⟩
  have hw := wsF_n (cW_le (plN N) (N.getD 1 0) 132 0 0)
  refine hK 0 _ _ _ _ _ _ _ _ rfl ?_
  dsimp only [k_B_wonShare_0, hN1, hB, wpI, xop, xcall, xli, xlj, xlf, xld, xla, xlg, xst, xst2, xc1, pI, pJ, pF, pD, pR, pA, p1, p0, xpop, xpush, xsm, xhas, xif, xic, xsw, xrf, xret, xrtl, xrtf, xrtd, xrta, xrtv, xfit, xnew, cond_true, cond_false, f40, f41, f42, f43, List.length_cons, List.length_nil, Nat.reduceAdd, Nat.reduceSub, Nat.reduceMul, Nat.reduceBEq, List.map_cons, List.map_nil, List.headD_cons, List.getElem?_cons_zero, List.getElem?_cons_succ, List.set_cons_zero, List.set_cons_succ]
  refine xhv_of rfl ?_
  dsimp only [hN1, hB, wpI, xop, xcall, xli, xlj, xlf, xld, xla, xlg, xst, xst2, xc1, pI, pJ, pF, pD, pR, pA, p1, p0, xpop, xpush, xsm, xhas, xif, xic, xsw, xrf, xret, xrtl, xrtf, xrtd, xrta, xrtv, xfit, xnew, cond_true, cond_false, f40, f41, f42, f43, List.length_cons, List.length_nil, Nat.reduceAdd, Nat.reduceSub, Nat.reduceMul, Nat.reduceBEq, List.map_cons, List.map_nil, List.headD_cons, List.getElem?_cons_zero, List.getElem?_cons_succ, List.set_cons_zero, List.set_cons_succ]
  refine xal_of (by decide) rfl ?_
  rw [List.length_map, shapes_len]
  refine ⟨fun _ => ?_, fun z => absurd z (by decide)⟩
  refine hK 1 _ _ _ _ _ _ _ _ rfl ?_
  dsimp only [k_B_wonShare_1, hN1, hB, wpI, xop, xcall, xli, xlj, xlf, xld, xla, xlg, xst, xst2, xc1, pI, pJ, pF, pD, pR, pA, p1, p0, xpop, xpush, xsm, xhas, xif, xic, xsw, xrf, xret, xrtl, xrtf, xrtd, xrta, xrtv, xfit, xnew, cond_true, cond_false, f40, f41, f42, f43, List.length_cons, List.length_nil, Nat.reduceAdd, Nat.reduceSub, Nat.reduceMul, Nat.reduceBEq, List.map_cons, List.map_nil, List.headD_cons, List.getElem?_cons_zero, List.getElem?_cons_succ, List.set_cons_zero, List.set_cons_succ]
  refine ⟨by trivial, by decide, by decide, ⟨wr (by omega), trivial, trivial⟩, trivial, ?_⟩
  refine Ev_of (ev_play _ N V S C P sv tl has g ok' gk) ?_
  rintro v h' ⟨p, w, lg, sh, P', g', rfl, rfl, gk', pl, ex⟩
  dsimp only [hN1, hB, wpI, xop, xcall, xli, xlj, xlf, xld, xla, xlg, xst, xst2, xc1, pI, pJ, pF, pD, pR, pA, p1, p0, xpop, xpush, xsm, xhas, xif, xic, xsw, xrf, xret, xrtl, xrtf, xrtd, xrta, xrtv, xfit, xnew, cond_true, cond_false, f40, f41, f42, f43, List.length_cons, List.length_nil, Nat.reduceAdd, Nat.reduceSub, Nat.reduceMul, Nat.reduceBEq, List.map_cons, List.map_nil, List.headD_cons, List.getElem?_cons_zero, List.getElem?_cons_succ, List.set_cons_zero, List.set_cons_succ]
  refine xhv_of rfl ?_
  dsimp only [hN1, hB, wpI, xop, xcall, xli, xlj, xlf, xld, xla, xlg, xst, xst2, xc1, pI, pJ, pF, pD, pR, pA, p1, p0, xpop, xpush, xsm, xhas, xif, xic, xsw, xrf, xret, xrtl, xrtf, xrtd, xrta, xrtv, xfit, xnew, cond_true, cond_false, f40, f41, f42, f43, List.length_cons, List.length_nil, Nat.reduceAdd, Nat.reduceSub, Nat.reduceMul, Nat.reduceBEq, List.map_cons, List.map_nil, List.headD_cons, List.getElem?_cons_zero, List.getElem?_cons_succ, List.set_cons_zero, List.set_cons_succ]
  refine xai_of (by decide) rfl ?_
  try simp (disch := first | omega | (simp only [List.length_set]; omega)) only [nI_add, n_and, n_or, n_xor, n_i31, nI_leI, nI_ltI, n_e0, n_eq, n_m1e, n_l0, n_g0, n_p0, n_q0, n_cl, n_in, n_sub, n_shr, n_shl, n_div, bI_0, n_01, n_11, bI_or, not_false_eq_true, forall_const, not_true_eq_false, false_imp_iff, true_imp_iff, List.length_map, List.length_set, hN, nL_u, gs_eq, gs_ne, nI_set, Nat.reduceLT, true_and, and_true, pk_mul]
  refine xhv_of pl.obj ?_
  refine Ev_use (ev_shapesWonBy _ p 5 w lg sh _ _ _ _ _ _ pl h1) ?_
  refine ⟨hw, ?_⟩
  refine hK 2 _ _ _ _ _ _ _ _ rfl ?_
  dsimp only [k_B_wonShare_2, hN1, hB, wpI, xop, xcall, xli, xlj, xlf, xld, xla, xlg, xst, xst2, xc1, pI, pJ, pF, pD, pR, pA, p1, p0, xpop, xpush, xsm, xhas, xif, xic, xsw, xrf, xret, xrtl, xrtf, xrtd, xrta, xrtv, xfit, xnew, cond_true, cond_false, f40, f41, f42, f43, List.length_cons, List.length_nil, Nat.reduceAdd, Nat.reduceSub, Nat.reduceMul, Nat.reduceBEq, List.map_cons, List.map_nil, List.headD_cons, List.getElem?_cons_zero, List.getElem?_cons_succ, List.set_cons_zero, List.set_cons_succ]
  exact ⟨by decide, by decide, hq _ ⟨P', g', rfl, gk', ex⟩⟩
end
section
/-! floating point: doubles by their bits -/
def dN (E m : Nat) : UInt64 := UInt64.ofNat (FP.Core.assemble FP.Core.b64 false E m)
theorem dN_eq (E m : Nat) : FP.Core.assemble FP.Core.b64 false E m = E * 2 ^ 52 + m := by
  show (0 * FP.Core.b64.exps + E) * FP.Core.b64.tails + m = E * 2 ^ 52 + m
  rw [Nat.zero_mul, Nat.zero_add]
  rfl
theorem dN_toNat {E m : Nat} (hE : E < 2047) (hm : m < 2 ^ 52) : (dN E m).toNat = E * 2 ^ 52 + m := by
  unfold dN
  rw [dN_eq, UInt64.toNat_ofNat_of_lt']
  show E * 2 ^ 52 + m < 2 ^ 64
  omega
theorem dN_val {E m : Nat} (h1 : 1 ≤ E) (hE : E < 2047) (hm : m < 2 ^ 52) : FP.Core.val64 (dN E m) = .fin false (2 ^ 52 + m) ((E : Int) - 1075) := by
  unfold FP.Core.val64
  rw [dN_toNat hE hm, ← dN_eq, FP.Core.decode_assemble _ _ _ _ (show E < FP.Core.b64.exps from (by show E < 2048; omega)) (show m < FP.Core.b64.tails from hm)]
  rw [if_neg (show ¬ E = FP.Core.b64.exps - 1 from (by show ¬ E = 2047; omega)), if_neg (by omega)]
  have e : FP.Core.b64.qmin + ((E : Int) - 1) = (E : Int) - 1075 := by
    show (-1074 : Int) + ((E : Int) - 1) = (E : Int) - 1075
    omega
  rw [e]
  rfl
theorem dN_nan {E m : Nat} (h1 : 1 ≤ E) (hE : E < 2047) (hm : m < 2 ^ 52) : FP.Core.val64 (dN E m) ≠ .nan := by
  rw [dN_val h1 hE hm]
  exact nofun
theorem n64_of {x : UInt64} (h : FP.Core.val64 x ≠ .nan) : vf_n64 x := by
  have e := (FP.Core.ne_nan x).mp h
  show x &&& 0x7fffffffffffffff ≤ 0x7ff0000000000000
  rw [UInt64.le_iff_toNat_le, UInt64.toNat_and]
  have e2 : (0x7fffffffffffffff : UInt64).toNat = 2 ^ 63 - 1 := by decide
  rw [e2, Nat.and_two_pow_sub_one_eq_mod]
  exact e
theorem dN_dbl {E m : Nat} (h1 : 1 ≤ E) (hE : E < 2046) (hm : m < 2 ^ 52) : FP.dmul (dN E m) 4611686018427387904 = dN (E + 1) m := by
  have v2 : FP.Core.val64 4611686018427387904 = .fin false (2 ^ 52) (-51) := by decide +kernel
  have hf : FP.Core.fits FP.Core.b64 (.fin false (2 ^ 52 + m) (((E + 1 : Nat) : Int) - 1075)) := by
    rw [← dN_val (by omega) (by omega) hm]
    exact FP.Core.val64_fits _
  have key : FP.Core.val64 (FP.Core.dmul (dN E m) 4611686018427387904) = FP.Core.val64 (dN (E + 1) m) := by
    rw [FP.Core.val64_dmul, dN_val h1 (by omega) hm, v2, dN_val (by omega) (by omega) hm]
    show FP.Core.roundRatio FP.Core.b64 false ((2 ^ 52 + m) * 2 ^ 52) 1 ((E : Int) - 1075 + -51) = _
    refine FP.Core.roundRatio_exact FP.Core.good_b64 (by decide) hf ?_
    have a1 : ((E : Int) - 1075 + -51 - (((E + 1 : Nat) : Int) - 1075)).toNat = 0 := by omega
    have a2 : (((E + 1 : Nat) : Int) - 1075 - ((E : Int) - 1075 + -51)).toNat = 52 := by omega
    rw [a1, a2, Nat.pow_zero, Nat.mul_one, Nat.mul_one]
  exact FP.Core.val64_inj (by rw [key]; exact dN_nan (by omega) (by omega) hm) key
theorem dN_key {E m : Nat} (hE : E < 2047) (hm : m < 2 ^ 52) : FP.Core.dkey (dN E m) = ((E * 2 ^ 52 + m : Nat) : Int) := by
  unfold FP.Core.dkey
  rw [dN_toNat hE hm, if_neg (by omega)]
theorem one_key : FP.Core.dkey FP.dconst1 = ((1023 * 2 ^ 52 : Nat) : Int) := by decide +kernel
theorem one_nan : FP.Core.val64 FP.dconst1 ≠ .nan := by decide +kernel
theorem dN_lt {E m : Nat} (h1 : 1 ≤ E) (hE : E < 1023) (hm : m < 2 ^ 52) : FP.dcmp (dN E m) FP.dconst1 = some .lt := by
  refine (FP.Core.dcmp_lt_key (dN_nan h1 (by omega) hm) one_nan).mpr ?_
  rw [dN_key (by omega) hm, one_key]
  omega
theorem dN_ge {m : Nat} (hm : m < 2 ^ 52) : FP.dcmp (dN 1023 m) FP.dconst1 = some .gt ∨ FP.dcmp (dN 1023 m) FP.dconst1 = some .eq := by
  by_cases e : m = 0
  · refine Or.inr ((FP.Core.dcmp_eq_key (dN_nan (by decide) (by decide) hm) one_nan).mpr ?_)
    rw [dN_key (by decide) hm, one_key]
    omega
  · refine Or.inl ((FP.Core.dcmp_gt_key (dN_nan (by decide) (by decide) hm) one_nan).mpr ?_)
    rw [dN_key (by decide) hm, one_key]
    omega
theorem dN_pos {E m : Nat} (h1 : 1 ≤ E) (hE : E < 2047) (hm : m < 2 ^ 52) : FP.dcmp (dN E m) FP.dconst0 = some .gt := by
  have z1 : FP.Core.val64 FP.dconst0 ≠ .nan := by decide +kernel
  have z2 : FP.Core.dkey FP.dconst0 = 0 := by decide +kernel
  refine (FP.Core.dcmp_gt_key (dN_nan h1 hE hm) z1).mpr ?_
  rw [dN_key hE hm, z2]
  omega
/-- what is left of the mantissa -/
theorem dN_man {m : Nat} (hm : m < 2 ^ 52) : vf_n64 (FP.dsub (dN 1023 m) FP.dconst1) ∧ vf_n64 (FP.dmul (FP.dsub (dN 1023 m) FP.dconst1) (FP.l2d 4503599627370496)) ∧ FP.d2l (FP.dmul (FP.dsub (dN 1023 m) FP.dconst1) (FP.l2d 4503599627370496)) = Int64.ofNat m := by
  have v1 : FP.Core.val64 FP.dconst1 = .fin false (2 ^ 52) (-52) := by decide +kernel
  have v3 : FP.Core.val64 (FP.l2d 4503599627370496) = .fin false (2 ^ 52) 0 := by decide +kernel
  have hy : FP.Core.val64 (FP.dsub (dN 1023 m) FP.dconst1) = FP.Core.round FP.Core.b64 (.fin false m (-52)) := by
    show FP.Core.val64 (FP.Core.dsub (dN 1023 m) FP.dconst1) = _
    rw [FP.Core.val64_dsub, dN_val (by decide) (by decide) hm, v1]
    have e : FP.Core.exactSum (.fin false (2 ^ 52 + m) (((1023 : Nat) : Int) - 1075)) (FP.Core.negate (.fin false (2 ^ 52) (-52))) = .fin false m (-52) := by
      show FP.Core.Datum.fin (FP.Core.sumSign false true (FP.Core.sumUnits false (2 ^ 52 + m) (((1023 : Nat) : Int) - 1075) true (2 ^ 52) (-52) (min (((1023 : Nat) : Int) - 1075) (-52)))) (FP.Core.sumUnits false (2 ^ 52 + m) (((1023 : Nat) : Int) - 1075) true (2 ^ 52) (-52) (min (((1023 : Nat) : Int) - 1075) (-52))).natAbs (min (((1023 : Nat) : Int) - 1075) (-52)) = _
      have e1 : min (((1023 : Nat) : Int) - 1075) (-52) = -52 := by decide
      have e2 : ((1023 : Nat) : Int) - 1075 = -52 := by decide
      rw [e1, e2]
      have e3 : FP.Core.sumUnits false (2 ^ 52 + m) (-52) true (2 ^ 52) (-52) (-52) = (m : Int) := by
        show (((2 ^ 52 + m) * 1 : Nat) : Int) + -((2 ^ 52 * 1 : Nat) : Int) = (m : Int)
        omega
      rw [e3]
      have e4 : FP.Core.sumSign false true (m : Int) = false := by
        unfold FP.Core.sumSign
        split
        · rfl
        · exact decide_eq_false (by omega)
      rw [e4]
      rfl
    rw [e]
  obtain ⟨c', q', hr, hu⟩ := FP.Core.round_exact FP.Core.good_b64 false (c := m) (q := -52) (show m < 2 ^ 53 by omega) (by decide) (by decide)
  rw [hr] at hy
  have hfit := FP.Core.val64_fits (FP.dsub (dN 1023 m) FP.dconst1)
  rw [hy] at hfit
  have hq : (-1074 : Int) ≤ q' := hfit.2.1
  have hu2 : c' * 2 ^ (q' + 1074).toNat = m * 2 ^ 1022 := by
    have a : FP.Core.inUnits c' q' FP.Core.b64.qmin = c' * 2 ^ (q' + 1074).toNat := by
      show c' * 2 ^ (q' - -1074).toNat = _
      have : q' - -1074 = q' + 1074 := by omega
      rw [this]
    have b : FP.Core.inUnits m (-52) FP.Core.b64.qmin = m * 2 ^ 1022 := rfl
    rw [← a, ← b]
    exact hu
  have hw : FP.Core.Whole (m : Int) (.fin false (c' * 2 ^ 52) (q' + 0)) := by
    show (((c' * 2 ^ 52) * 2 ^ (q' + 0).toNat : Nat) : Int) = (m : Int) * ((2 ^ (-(q' + 0)).toNat : Nat) : Int)
    rw [← Int.natCast_mul]
    congr 1
    have hp : 0 < 2 ^ 1022 := Nat.two_pow_pos 1022
    apply Nat.eq_of_mul_eq_mul_right hp
    rcases Int.le_total 0 q' with h | h
    · have t1 : (q' + 0).toNat = q'.toNat := by omega
      have t2 : (-(q' + 0)).toNat = 0 := by omega
      have t3 : (q' + 1074).toNat = q'.toNat + (52 + 1022) := by omega
      rw [t1, t2, Nat.pow_zero, Nat.mul_one, ← hu2, t3, Nat.pow_add, Nat.pow_add]
      simp only [Nat.mul_assoc, Nat.mul_comm, Nat.mul_left_comm]
    · have t1 : (q' + 0).toNat = 0 := by omega
      have t2 : (-(q' + 0)).toNat = (-q').toNat := by omega
      have t3 : 52 + 1022 = (q' + 1074).toNat + (-q').toNat := by omega
      have t4 : c' * 2 ^ 52 * 2 ^ 1022 = c' * 2 ^ (q' + 1074).toNat * 2 ^ (-q').toNat := by
        rw [Nat.mul_assoc, ← Nat.pow_add, t3, Nat.pow_add, Nat.mul_assoc]
      rw [t1, t2, Nat.pow_zero, Nat.mul_one, t4, hu2]
      simp only [Nat.mul_assoc, Nat.mul_comm, Nat.mul_left_comm]
  have hz : FP.Core.val64 (FP.dmul (FP.dsub (dN 1023 m) FP.dconst1) (FP.l2d 4503599627370496)) = FP.Core.round FP.Core.b64 (.fin false (c' * 2 ^ 52) (q' + 0)) := by
    show FP.Core.val64 (FP.Core.dmul (FP.dsub (dN 1023 m) FP.dconst1) (FP.l2d 4503599627370496)) = _
    rw [FP.Core.val64_dmul, hy, v3]
    rfl
  have hw2 : FP.Core.DInt (m : Int) (FP.dmul (FP.dsub (dN 1023 m) FP.dconst1) (FP.l2d 4503599627370496)) := by
    unfold FP.Core.DInt
    rw [hz]
    exact FP.Core.whole_round FP.Core.good_b64 FP.Core.wide_b64 (show (m : Int).natAbs ≤ 2 ^ 53 by omega) hw
  refine ⟨n64_of (by rw [hy]; exact nofun), n64_of (FP.Core.DInt_ne_nan hw2), ?_⟩
  have hm2 : (Int64.ofNat m).toInt = (m : Int) := Int64.toInt_ofNat_of_lt (by omega)
  exact FP.Core.d2l_int (by rw [hm2]; exact hw2)
end
section
/-! floating point: a quotient of two whole numbers -/
theorem sh_n64 {b g : Int32} (hg : g ≠ 0) : vf_n64 (FP.ddiv (FP.i2d b) (FP.i2d g)) := by
  have hz : ¬ FP.Core.DZero (FP.i2d g) := fun q => FP.Core.i2d_ne_zero hg ((FP.Core.zero_bits2 _).mp q)
  exact n64_of ((FP.Core.notNaN_iff _).mp (FP.Core.ddiv_out (FP.Core.DFin.notNaN (FP.Core.i2d_fin b)) (FP.Core.i2d_fin g) hz))
theorem i2d_val {a : Nat} (h : a < 2 ^ 31) : ∃ c q, FP.Core.val64 (FP.i2d (nI a)) = .fin false c q ∧ c * 2 ^ q.toNat = a * 2 ^ (-q).toNat := by
  have hw := FP.Core.i2d_int (nI a)
  rw [nI_toInt h] at hw
  have hv : FP.Core.val64 (FP.i2d (nI a)) = FP.Core.roundRatio FP.Core.b64 false a 1 0 := by
    show FP.Core.val64 (FP.Core.i2d (nI a)) = _
    rw [FP.Core.val64_i2d, nI_toInt h]
    show FP.Core.roundRatio FP.Core.b64 (decide ((a : Int) < 0)) (a : Int).natAbs 1 0 = _
    rw [decide_eq_false (by omega)]
    rfl
  obtain ⟨s, c, q, e⟩ := FP.Core.i2d_fin (nI a)
  have hs := FP.Core.sgn_roundRatio FP.Core.b64 false a 1 0
  have e' : FP.Core.val64 (FP.i2d (nI a)) = .fin s c q := e
  rw [← hv, e'] at hs
  have hs2 : s = false := hs
  subst hs2
  refine ⟨c, q, e, ?_⟩
  have hw2 : FP.Core.Whole (a : Int) (FP.Core.val64 (FP.i2d (nI a))) := hw
  rw [e'] at hw2
  exact FP.Core.whole_natAbs hw2
theorem sh_val {b g : Nat} (hb : b < 2 ^ 31) (hg : g < 2 ^ 31) (h0 : 0 < g) : FP.Core.val64 (FP.ddiv (FP.i2d (nI b)) (FP.i2d (nI g))) = FP.Core.roundRatio FP.Core.b64 false b g 0 := by
  obtain ⟨c, q, e1, v1⟩ := i2d_val hb
  obtain ⟨c2, q2, e2, v2⟩ := i2d_val hg
  have p1 := Nat.two_pow_pos q2.toNat
  have p2 := Nat.two_pow_pos (-q2).toNat
  have hc2 : 0 < c2 := by
    apply Nat.pos_of_ne_zero
    rintro rfl
    rw [Nat.zero_mul] at v2
    have := Nat.mul_pos h0 p2
    omega
  show FP.Core.val64 (FP.Core.ddiv (FP.i2d (nI b)) (FP.i2d (nI g))) = _
  rw [FP.Core.val64_ddiv, e1, e2]
  show (if c2 = 0 then (if c = 0 then FP.Core.Datum.nan else .inf (false != false)) else FP.Core.roundRatio FP.Core.b64 (false != false) c c2 (q - q2)) = _
  rw [if_neg (by omega)]
  show FP.Core.roundRatio FP.Core.b64 false c c2 (q - q2) = _
  refine FP.Core.roundRatio_congr hc2 h0 ?_
  have k : 0 < 2 ^ (q.toNat) * 2 ^ (-q).toNat * 2 ^ q2.toNat * 2 ^ (-q2).toNat := Nat.mul_pos (Nat.mul_pos (Nat.mul_pos (Nat.two_pow_pos _) (Nat.two_pow_pos _)) p1) p2
  have x1 : (q - q2 - 0).toNat + ((-q).toNat + q2.toNat) = (0 - (q - q2)).toNat + (q.toNat + (-q2).toNat) := by omega
  have hp : 0 < 2 ^ ((-q).toNat + q2.toNat + (q.toNat + (-q2).toNat)) := Nat.two_pow_pos _
  apply Nat.eq_of_mul_eq_mul_right (show 0 < 2 ^ q.toNat * 2 ^ (-q2).toNat * (2 ^ (-q).toNat * 2 ^ q2.toNat) from Nat.mul_pos (Nat.mul_pos (Nat.two_pow_pos _) p2) (Nat.mul_pos (Nat.two_pow_pos _) p1))
  have y1 : 2 ^ (q - q2 - 0).toNat * (2 ^ (-q).toNat * 2 ^ q2.toNat) = 2 ^ (0 - (q - q2)).toNat * (2 ^ q.toNat * 2 ^ (-q2).toNat) := by
    rw [← Nat.pow_add, ← Nat.pow_add, ← Nat.pow_add, ← Nat.pow_add, x1]
  have z1 : c * g * 2 ^ (q - q2 - 0).toNat * (2 ^ q.toNat * 2 ^ (-q2).toNat * (2 ^ (-q).toNat * 2 ^ q2.toNat)) = (c * 2 ^ q.toNat) * (g * 2 ^ (-q2).toNat) * (2 ^ (q - q2 - 0).toNat * (2 ^ (-q).toNat * 2 ^ q2.toNat)) := by
    simp only [Nat.mul_assoc, Nat.mul_comm, Nat.mul_left_comm]
  have z2 : b * c2 * 2 ^ (0 - (q - q2)).toNat * (2 ^ q.toNat * 2 ^ (-q2).toNat * (2 ^ (-q).toNat * 2 ^ q2.toNat)) = (b * 2 ^ (-q).toNat) * (c2 * 2 ^ q2.toNat) * (2 ^ (0 - (q - q2)).toNat * (2 ^ q.toNat * 2 ^ (-q2).toNat)) := by
    simp only [Nat.mul_assoc, Nat.mul_comm, Nat.mul_left_comm]
  rw [z1, z2, y1, v1, v2]
theorem sh_0 {g : Nat} (hg : g < 2 ^ 31) (h0 : 0 < g) : FP.ddiv (FP.i2d (nI 0)) (FP.i2d (nI g)) = 0 := by
  have h := sh_val (b := 0) (by decide) hg h0
  have e : FP.Core.roundRatio FP.Core.b64 false 0 g 0 = .fin false 0 FP.Core.b64.qmin := rfl
  have e0 : FP.Core.val64 0 = .fin false 0 FP.Core.b64.qmin := by decide +kernel
  rw [e, ← e0] at h
  exact FP.Core.val64_inj (by rw [h, e0]; exact nofun) h
theorem sh_dN {b g : Nat} (h1 : 1 ≤ b) (h2 : b ≤ g) (hg : g < 2 ^ 31) : ∃ E m, 992 ≤ E ∧ E ≤ 1023 ∧ m < 2 ^ 52 ∧ FP.ddiv (FP.i2d (nI b)) (FP.i2d (nI g)) = dN E m := by
  have hv := sh_val (b := b) (by omega) hg (by omega)
  generalize hx : FP.ddiv (FP.i2d (nI b)) (FP.i2d (nI g)) = x at hv ⊢
  have hn : FP.Core.decode FP.Core.b64 x.toNat = FP.Core.roundRatio FP.Core.b64 false b g 0 := hv
  have t1 : FP.Core.b64.tails = 2 ^ 52 := rfl
  have t2 : (0 - FP.Core.b64.qmin).toNat = 52 + (1023 - 1) := by decide
  have t3 : (FP.Core.b64.qmin - FP.Core.b64.qmin).toNat = 0 := by decide
  have up := FP.Core.mag_le (m := 1023 * FP.Core.b64.tails) (e0 := FP.Core.b64.qmin) FP.Core.good_b64 hn (by omega) (Int.le_refl _) (by decide) (by
    rw [FP.Core.unitsOf_start (by decide)]
    unfold FP.Core.inUnits
    rw [t1, t2, t3, ← Nat.pow_add, Nat.pow_zero, Nat.mul_one, Nat.mul_comm]
    exact Nat.mul_le_mul_left _ h2)
  have lo := FP.Core.mag_ge (m := 992 * FP.Core.b64.tails) (e0 := FP.Core.b64.qmin) FP.Core.good_b64 hn (by omega) (Int.le_refl _) (by decide) (by decide) (by
    rw [FP.Core.unitsOf_start (by decide)]
    unfold FP.Core.inUnits
    rw [t1, t2, t3, ← Nat.pow_add, Nat.pow_zero, Nat.mul_one]
    calc 2 ^ (52 + (992 - 1)) * g ≤ 2 ^ (52 + (992 - 1)) * 2 ^ 31 := Nat.mul_le_mul_left _ (by omega)
      _ = 1 * 2 ^ (52 + (1023 - 1)) := by rw [← Nat.pow_add, Nat.one_mul]
      _ ≤ b * 2 ^ (52 + (1023 - 1)) := Nat.mul_le_mul_right _ h1)
  rw [FP.Core.mag_toNat64] at up lo
  have up2 : x.toNat % 2 ^ 63 ≤ 1023 * 2 ^ 52 := up
  have lo2 : 992 * 2 ^ 52 ≤ x.toNat % 2 ^ 63 := lo
  have hne : FP.Core.val64 x ≠ .nan := (FP.Core.ne_nan x).mpr (by omega)
  have hs := FP.Core.sgn_bits hne
  rw [hv, FP.Core.sgn_roundRatio] at hs
  have hs2 : ¬ 2 ^ 63 ≤ x.toNat := of_decide_eq_false hs.symm
  have hlt := x.toNat_lt
  refine ⟨x.toNat / 2 ^ 52, x.toNat % 2 ^ 52, by omega, by omega, Nat.mod_lt _ (by decide), ?_⟩
  apply UInt64.toNat.inj
  rw [dN_toNat (by omega) (Nat.mod_lt _ (by decide))]
  omega
end
section
/-! the class: brokenShare, and the bits of a share -/
def bsF (b g : Nat) : UInt64 := if nI g = 0 then FP.dconst0 else FP.ddiv (FP.i2d (nI b)) (FP.i2d (nI g))
theorem bsF_n (b g : Nat) (h : ¬ nI g = 0) : vf_n64 (FP.ddiv (FP.i2d (nI b)) (FP.i2d (nI g))) := sh_n64 h
set_option maxRecDepth 100000 in
set_option maxHeartbeats 4000000 in
theorem ev_brokenShare (d : Nat) (N : List Nat) (vs : List Value) (g : xH) (hN : N.length = 18) :
    Ev xT (d + 2) N_B_brokenShare [.ref 0] (hN1 N vs g) (Rt (some (.double (bsF (brkS N 5 0 0) (brkS N 5 0 0 + N.getD 16 0 + N.getD 17 0)))) (hN1 N vs g)) NX := by
  refine Ev_intro t_B_brokenShare (Nat.le_of_ble_eq_true rfl) ?_
  intro Q X hQ hX K hK
  show K 0 [some (.ref 0), none, none] [] _ 0 0
  have hq := hQ _ _ ⟨rfl, rfl⟩
  unfold bsF at hq
  refine hK 0 _ _ _ _ _ _ _ _ rfl ?_
  dsimp only [k_B_brokenShare_0, hN1, hB, wpI, xop, xcall, xli, xlj, xlf, xld, xla, xlg, xst, xst2, xc1, pI, pJ, pF, pD, pR, pA, p1, p0, xpop, xpush, xsm, xhas, xif, xic, xsw, xai, xal, xhi, xhv, xrf, xret, xrtl, xrtf, xrtd, xrta, xrtv, xfit, xnew, cond_true, cond_false, f40, f41, f42, f43, List.length_cons, List.length_nil, Nat.reduceAdd, Nat.reduceSub, Nat.reduceMul, Nat.reduceBEq, List.map_cons, List.map_nil, List.headD_cons, List.getElem?_cons_zero, List.getElem?_cons_succ, List.set_cons_zero, List.set_cons_succ]
  refine Ev_use (ev_brokenInAll _ N _ _ hN) ?_
  dsimp only [hN1, hB, wpI, xop, xcall, xli, xlj, xlf, xld, xla, xlg, xst, xst2, xc1, pI, pJ, pF, pD, pR, pA, p1, p0, xpop, xpush, xsm, xhas, xif, xic, xsw, xai, xal, xhi, xhv, xrf, xret, xrtl, xrtf, xrtd, xrta, xrtv, xfit, xnew, cond_true, cond_false, f40, f41, f42, f43, List.length_cons, List.length_nil, Nat.reduceAdd, Nat.reduceSub, Nat.reduceMul, Nat.reduceBEq, List.map_cons, List.map_nil, List.headD_cons, List.getElem?_cons_zero, List.getElem?_cons_succ, List.set_cons_zero, List.set_cons_succ]
  try simp (disch := first | omega | (simp only [List.length_set]; omega)) only [nI_add, n_and, n_or, n_xor, n_i31, nI_leI, nI_ltI, n_e0, n_eq, n_m1e, n_l0, n_g0, n_p0, n_q0, n_cl, n_in, n_sub, n_shr, n_shl, n_div, bI_0, n_01, n_11, bI_or, not_false_eq_true, forall_const, not_true_eq_false, false_imp_iff, true_imp_iff, List.length_map, List.length_set, hN, nL_u, gs_eq, gs_ne, nI_set, Nat.reduceLT, true_and, and_true, pk_mul]
  refine ⟨fun y => ?_, fun y => ?_⟩
  · rw [if_neg y] at hq
    refine hK 1 _ _ _ _ _ _ _ _ rfl ?_
    dsimp only [k_B_brokenShare_1, hN1, hB, wpI, xop, xcall, xli, xlj, xlf, xld, xla, xlg, xst, xst2, xc1, pI, pJ, pF, pD, pR, pA, p1, p0, xpop, xpush, xsm, xhas, xif, xic, xsw, xai, xal, xhi, xhv, xrf, xret, xrtl, xrtf, xrtd, xrta, xrtv, xfit, xnew, cond_true, cond_false, f40, f41, f42, f43, List.length_cons, List.length_nil, Nat.reduceAdd, Nat.reduceSub, Nat.reduceMul, Nat.reduceBEq, List.map_cons, List.map_nil, List.headD_cons, List.getElem?_cons_zero, List.getElem?_cons_succ, List.set_cons_zero, List.set_cons_succ]
    refine ⟨bsF_n _ _ y, ?_⟩
    refine hK 2 _ _ _ _ _ _ _ _ rfl ?_
    dsimp only [k_B_brokenShare_2, hN1, hB, wpI, xop, xcall, xli, xlj, xlf, xld, xla, xlg, xst, xst2, xc1, pI, pJ, pF, pD, pR, pA, p1, p0, xpop, xpush, xsm, xhas, xif, xic, xsw, xai, xal, xhi, xhv, xrf, xret, xrtl, xrtf, xrtd, xrta, xrtv, xfit, xnew, cond_true, cond_false, f40, f41, f42, f43, List.length_cons, List.length_nil, Nat.reduceAdd, Nat.reduceSub, Nat.reduceMul, Nat.reduceBEq, List.map_cons, List.map_nil, List.headD_cons, List.getElem?_cons_zero, List.getElem?_cons_succ, List.set_cons_zero, List.set_cons_succ]
    first | exact hq | exact ⟨Nat.le_refl _, hq⟩ | exact ⟨Nat.le_refl _, Nat.le_refl _, hq⟩ | exact ⟨Or.inl rfl, Nat.le_refl _, Nat.le_refl _, hq⟩ | exact ⟨Or.inr rfl, Nat.le_refl _, Nat.le_refl _, hq⟩
  · rw [if_pos y] at hq
    refine hK 2 _ _ _ _ _ _ _ _ rfl ?_
    dsimp only [k_B_brokenShare_2, hN1, hB, wpI, xop, xcall, xli, xlj, xlf, xld, xla, xlg, xst, xst2, xc1, pI, pJ, pF, pD, pR, pA, p1, p0, xpop, xpush, xsm, xhas, xif, xic, xsw, xai, xal, xhi, xhv, xrf, xret, xrtl, xrtf, xrtd, xrta, xrtv, xfit, xnew, cond_true, cond_false, f40, f41, f42, f43, List.length_cons, List.length_nil, Nat.reduceAdd, Nat.reduceSub, Nat.reduceMul, Nat.reduceBEq, List.map_cons, List.map_nil, List.headD_cons, List.getElem?_cons_zero, List.getElem?_cons_succ, List.set_cons_zero, List.set_cons_succ]
    first | exact hq | exact ⟨Nat.le_refl _, hq⟩ | exact ⟨Nat.le_refl _, Nat.le_refl _, hq⟩ | exact ⟨Or.inl rfl, Nat.le_refl _, Nat.le_refl _, hq⟩ | exact ⟨Or.inr rfl, Nat.le_refl _, Nat.le_refl _, hq⟩
end
section
/-! the class: digest -/
set_option maxRecDepth 100000 in
set_option maxHeartbeats 4000000 in
theorem ev_count0 (d : Nat) (N V S C : List Nat) (P : List Value) (sv tl : Nat) (has : Bool) (g : xH) (k : Nat) (ok : stN N) (hk : k < 10) :
    Ev xT (d + 6) N_B_count [.ref 0, .int (nI k)] (hB N V S C P sv tl has g) (Rt (some (.int (cntR N sv (nI k)))) (hB N V S C P sv tl has g)) NX := by
  have key : ∀ k, k < 10 → cntE (nI k) = 0 := by decide +kernel
  exact Ev_mono (ev_count d N V S C P sv tl has g (nI k) ok) (fun v g q => ⟨q.2.1, q.2.2⟩) (fun _ g q => absurd (key k hk) q.1)
set_option maxRecDepth 100000 in
set_option maxHeartbeats 4000000 in
theorem ev_wins0 (d : Nat) (N V S C : List Nat) (P : List Value) (sv tl : Nat) (has : Bool) (g : xH) (t : Nat) (ok : stN N) (gk : gOk P g) (ht : t < 2) :
    Ev xT (d + 6) N_B_wins [.ref 0, .int (nI t)] (hB N V S C P sv tl has g) (clQ N V S C sv tl has g 0 (some (.int (nI (if wonB (plN N) t (N.getD 0 0) then 1 else 0))))) NX := by
  have key : ∀ t, t < 2 → turnE (nI t) = 0 := by decide +kernel
  have h := ev_wins d N V S C P sv tl has g (nI t) ok gk
  rw [n_cl (by omega), key t ht] at h
  exact Ev_mono h (fun v g q => q) (fun _ g q => absurd rfl q.1)
set_option maxRecDepth 100000 in
set_option maxHeartbeats 4000000 in
theorem ev_length0 (d : Nat) (N V S C : List Nat) (P : List Value) (sv tl : Nat) (has : Bool) (g : xH) (t : Nat) (ok : stN N) (gk : gOk P g) (ht : t < 2) :
    Ev xT (d + 6) N_B_length [.ref 0, .int (nI t)] (hB N V S C P sv tl has g) (clQ N V S C sv tl has g 0 (some (.int (nI (if t = 0 then lonN (plN N) (N.getD 1 0) (N.getD 0 0) else shoN (plN N) (N.getD 1 0) (N.getD 0 0)))))) NX := by
  have key : ∀ t, t < 2 → turnE (nI t) = 0 := by decide +kernel
  have h := ev_length d N V S C P sv tl has g (nI t) ok gk
  rw [key t ht] at h
  have e : (nI t = 0) = (t = 0) := propext (n_e0 (by omega))
  simp only [e] at h
  exact Ev_mono h (fun v g q => q) (fun _ g q => absurd rfl q.1)
set_option maxRecDepth 100000 in
set_option maxHeartbeats 4000000 in
theorem ev_pyramids0 (d : Nat) (N V S C : List Nat) (P : List Value) (sv tl : Nat) (has : Bool) (g : xH) (w : Nat) (ok : stN N) (gk : gOk P g) (hw : w < 4) :
    Ev xT (d + 6) N_B_pyramids [.ref 0, .int (nI w)] (hB N V S C P sv tl has g) (clQ N V S C sv tl has g 0 (some (.int (nI (pyrR N (nI w)))))) NX := by
  have key : ∀ t, t < 4 → pyrE (nI t) = 0 := by decide +kernel
  have h := ev_pyramids d N V S C P sv tl has g (nI w) ok gk
  rw [key w hw] at h
  exact Ev_mono h (fun v g q => q) (fun _ g q => absurd rfl q.1)
end
