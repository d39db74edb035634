/-! ===== the abstract machine: heaps as lists, references as places, methods as blocks; wpI: what a run of entries asks ===== -/
abbrev xC : Type := Nat × List Int32 × List Value
abbrev xH : Type := List xC
abbrev xL : Type := List (Option Value)
abbrev xE : Type := Instr × Nat × Nat × Nat × Value × List Nat
abbrev xB : Type := Nat × List xE × Nat
/-- a method: name, code, locals, type of its answer, cells and slots that it may make, whether it makes any, blocks -/
abbrev xM : Type := MethodName × ByteArray × Nat × Option FieldType × Nat × Nat × Bool × List xB
abbrev xK : Type := Nat → xL → List Value → xH → Nat → Nat → Prop
abbrev xG0 : Type := xL → List Value → xH → Nat → Nat → Prop
def xlg : xL → Nat → Option Value
  | [], _ => none
  | v :: _, 0 => v
  | _ :: l, n + 1 => xlg l n
def xc1 : Option Value → Option Value
  | some (.long _) => none
  | some (.double _) => none
  | a => a
def xst : xL → Nat → Value → xL
  | [], _, _ => []
  | _ :: l, 0, v => some v :: l
  | a :: l, 1, v => xc1 a :: xst l 0 v
  | a :: l, n + 2, v => a :: xst l (n + 1) v
def xst2 : xL → Nat → Value → xL
  | [], _, _ => []
  | [_], _, _ => []
  | _ :: _ :: l, 0, v => some v :: none :: l
  | a :: l, 1, v => xc1 a :: xst2 l 0 v
  | a :: l, n + 2, v => a :: xst2 l (n + 1) v
def pI (st : List Value) (k : Int32 → List Value → Prop) : Prop := match st with
  | .int x :: r => k x r
  | _ => False
def pJ (st : List Value) (k : Int64 → List Value → Prop) : Prop := match st with
  | .long x :: r => k x r
  | _ => False
def pF (st : List Value) (k : UInt32 → List Value → Prop) : Prop := match st with
  | .float x :: r => k x r
  | _ => False
def pD (st : List Value) (k : UInt64 → List Value → Prop) : Prop := match st with
  | .double x :: r => k x r
  | _ => False
def pR (st : List Value) (k : Nat → List Value → Prop) : Prop := match st with
  | .ref x :: r => k x r
  | _ => False
def pA (st : List Value) (k : Value → List Value → Prop) : Prop := match st with
  | .ref x :: r => k (.ref x) r
  | .null :: r => k .null r
  | _ => False
def p1 (st : List Value) (k : Value → List Value → Prop) : Prop := match st with
  | .int x :: r => k (.int x) r
  | .float x :: r => k (.float x) r
  | .ref x :: r => k (.ref x) r
  | .null :: r => k .null r
  | _ => False
def p0 (st : List Value) (k : Prop) : Prop := match st with
  | [] => k
  | _ => False
def xli (L : xL) (i : Nat) (k : Int32 → Prop) : Prop := match xlg L i with
  | some (.int x) => k x
  | _ => False
def xlj (L : xL) (i : Nat) (k : Int64 → Prop) : Prop := match xlg L i with
  | some (.long x) => k x
  | _ => False
def xlf (L : xL) (i : Nat) (k : UInt32 → Prop) : Prop := match xlg L i with
  | some (.float x) => k x
  | _ => False
def xld (L : xL) (i : Nat) (k : UInt64 → Prop) : Prop := match xlg L i with
  | some (.double x) => k x
  | _ => False
def xla (L : xL) (i : Nat) (k : Value → Prop) : Prop := match xlg L i with
  | some (.ref x) => k (.ref x)
  | some .null => k .null
  | _ => False
/-- the numbers of an array of kind t -/
def xhi (h : xH) (a t : Nat) (k : List Int32 → Prop) : Prop := match h[a]? with
  | some q => bif q.1 == t then k q.2.1 else False
  | none => False
/-- the values of an array or object of kind t -/
def xhv (h : xH) (a t : Nat) (k : List Value → Prop) : Prop := match h[a]? with
  | some q => bif q.1 == t then k q.2.2 else False
  | none => False
/-- the rows that lie outside: 1000 the table ROW_START, 1001 the script -/
def xai (sc : Option (List Int32)) (h : xH) (a : Nat) (k : List Int32 → Prop) : Prop :=
  bif a == 1000 then k [0, 5, 9, 12, 14] else bif a == 1001 then (match sc with | some l => k l | none => False) else xhi h a 0 k
def xal (sc : Option (List Int32)) (h : xH) (a : Nat) (k : Nat → Prop) : Prop :=
  bif a == 1001 then (match sc with | some l => k l.length | none => False) else match h[a]? with
  | some (0, l, _) => k l.length
  | some (1, l, _) => k l.length
  | some (2, l, _) => k l.length
  | some (4, _, l) => k l.length
  | _ => False
def xlong : Value → Int64
  | .long x => x
  | _ => 0
def xrf : Value → Value
  | .ref a => .ref a
  | _ => .null
def xcpy (f g : List Int32) (sp dp n : Nat) : List Int32 := g.take dp ++ ((f.drop sp).take n ++ g.drop (dp + n))
def xpop : Nat → List Value → List Value → (List Value → List Value → Prop) → Prop
  | 0, acc, st, k => k acc st
  | n + 1, acc, v :: st, k => xpop n (v :: acc) st k
  | _ + 1, _, [], _ => False
def xpush : Option Value → List Value → List Value
  | none, st => st
  | some v, st => v :: st
def xsm : List Value → Prop → Prop
  | [], k => k
  | [_], k => k
  | [_, _], k => k
  | [_, _, _], k => k
  | [_, _, _, _], k => k
  | _ :: _ :: _ :: _ :: _ :: _, _ => False
def xhas : xL → Nat → Bool
  | [], _ => false
  | _ :: _, 0 => true
  | _ :: l, n + 1 => xhas l n
def wfv (n : Nat) : Value → Prop
  | .ref a => a < n ∨ 1000 ≤ a
  | _ => True
def xwS (n : Nat) : List Value → Prop
  | [] => True
  | v :: l => wfv n v ∧ xwS n l
def xwL (n : Nat) : xL → Prop
  | [] => True
  | none :: l => xwL n l
  | some v :: l => wfv n v ∧ xwL n l
def xwH (n : Nat) : xH → Prop
  | [] => True
  | q :: h => xwS n q.2.2 ∧ xwH n h
def xfit (n : Nat) (v : Value) (k : Prop) : Prop := match n with
  | 0 => (match v with | .int _ => k | _ => False)
  | 1 => (match v with | .int x => (x = 0 ∨ x = 1) ∧ k | _ => False)
  | 2 => (match v with | .ref _ => k | _ => False)
  | _ => False
def xnew : Nat → Bool
  | 0 => true
  | 1 => true
  | _ + 2 => false
def xdef : Nat → List Value
  | 0 => [.null, .int 0, .int 0, .int 0, .null, .null, .null]
  | _ => [.null, .null, .int 0, .null, .int 0, .null, .int 0, .null, .null]
def xif (op : Jvm.ClassFile.Cond) (x : Int32) (t f : Prop) : Prop := match op with
  | .eq => (x = 0 → t) ∧ (¬ x = 0 → f)
  | .ne => (¬ x = 0 → t) ∧ (x = 0 → f)
  | .lt => (x < 0 → t) ∧ (¬ x < 0 → f)
  | .ge => (0 ≤ x → t) ∧ (¬ 0 ≤ x → f)
  | .gt => (0 < x → t) ∧ (¬ 0 < x → f)
  | .le => (x ≤ 0 → t) ∧ (¬ x ≤ 0 → f)
def xic (op : Jvm.ClassFile.Cond) (x y : Int32) (t f : Prop) : Prop := match op with
  | .eq => (x = y → t) ∧ (¬ x = y → f)
  | .ne => (¬ x = y → t) ∧ (x = y → f)
  | .lt => (x < y → t) ∧ (¬ x < y → f)
  | .ge => (y ≤ x → t) ∧ (¬ y ≤ x → f)
  | .gt => (y < x → t) ∧ (¬ y < x → f)
  | .le => (x ≤ y → t) ∧ (¬ x ≤ y → f)
def xsw (d : Prop) (x : Int32) : Nat → List Prop → Prop
  | _, [] => d
  | lo, t :: ts => (x = nI lo → t) ∧ (¬ x = nI lo → xsw d x (lo + 1) ts)
def xtag : ArrayType → Option (Nat × Bool)
  | .int => some (0, true)
  | .char => some (1, true)
  | .boolean => some (2, true)
  | _ => none
/-- what an answer of a type asks -/
def xret (ret : Option FieldType) (x : Int32) (k : Prop) : Prop := match ret with
  | some .int => k
  | some .boolean => (x = 0 ∨ x = 1) ∧ k
  | _ => False
def xrtl (ret : Option FieldType) (k : Prop) : Prop := match ret with
  | some .long => k
  | _ => False
def xrtf (ret : Option FieldType) (k : Prop) : Prop := match ret with
  | some .float => k
  | _ => False
def xrtd (ret : Option FieldType) (k : Prop) : Prop := match ret with
  | some .double => k
  | _ => False
def xrta (ret : Option FieldType) (k : Prop) : Prop := match ret with
  | some (.object _) => k
  | some (.array _) => k
  | _ => False
def xrtv (ret : Option FieldType) (k : Prop) : Prop := match ret with
  | none => k
  | _ => False
section RXW
variable (sc : Option (List Int32)) (E : Nat → List Value → xH → (Option Value → xH → Prop) → Prop) (ret : Option FieldType) (mc ms : Nat) (al : Bool) (Q : Option Value → xH → Prop) (X : Nat → xH → Prop) (K : xK)
/-- a call: 'own' answers of the callee go on; a callee that makes cells asks that what is at hand lies in the heap -/
def xcall (M : Nat) (tb : List Nat) (args : List Value) (L : xL) (st : List Value) (h : xH) (c s : Nat) (go : xG0) : Prop :=
  xsm st <| match tb with
  | [_] => E M args h (fun v h' => go L (xpush v st) h' c s)
  | [_, k1, k2] => c + k1 ≤ mc ∧ s + k2 ≤ ms ∧ E M args h (fun v h' => go L (xpush v st) h' (c + k1) (s + k2))
  | [_, k1, k2, _] => al = true ∧ c + k1 ≤ mc ∧ s + k2 ≤ ms ∧ xwL h.length L ∧ xwS h.length st ∧ E M args h (fun v h' => go L (xpush v st) h' (c + k1) (s + k2))
  | _ => False
def xop (ins : Instr) (r1 r2 : Nat) (v : Value) (tb : List Nat) (L : xL) (st : List Value) (h : xH) (c s : Nat) (go : xG0) : Prop := match ins with
  | .iconst _ => go L (v :: st) h c s
  | .bipush _ => go L (v :: st) h c s
  | .sipush _ => go L (v :: st) h c s
  | .ldc _ => go L (v :: st) h c s
  | .ldc_w _ => go L (v :: st) h c s
  | .ldc2_w _ => go L (v :: st) h c s
  | .lconst _ => go L (v :: st) h c s
  | .fconst _ => go L (v :: st) h c s
  | .dconst _ => go L (v :: st) h c s
  | .iload_n k => xli L k.val fun x => go L (.int x :: st) h c s
  | .iload k => xli L k fun x => go L (.int x :: st) h c s
  | .lload_n k => xlj L k.val fun x => go L (.long x :: st) h c s
  | .lload k => xlj L k fun x => go L (.long x :: st) h c s
  | .fload_n k => xlf L k.val fun x => go L (.float x :: st) h c s
  | .fload k => xlf L k fun x => go L (.float x :: st) h c s
  | .dload_n k => xld L k.val fun x => go L (.double x :: st) h c s
  | .dload k => xld L k fun x => go L (.double x :: st) h c s
  | .aload_n k => xla L k.val fun x => go L (x :: st) h c s
  | .aload k => xla L k fun x => go L (x :: st) h c s
  | .istore_n k => pI st fun x st => bif xhas L k.val then go (xst L k.val (.int x)) st h c s else False
  | .istore k => pI st fun x st => bif xhas L k then go (xst L k (.int x)) st h c s else False
  | .lstore_n k => pJ st fun x st => bif xhas L (k.val + 1) then go (xst2 L k.val (.long x)) st h c s else False
  | .lstore k => pJ st fun x st => bif xhas L (k + 1) then go (xst2 L k (.long x)) st h c s else False
  | .dstore_n k => pD st fun x st => bif xhas L (k.val + 1) then go (xst2 L k.val (.double x)) st h c s else False
  | .dstore k => pD st fun x st => bif xhas L (k + 1) then go (xst2 L k (.double x)) st h c s else False
  | .fstore k => pF st fun x st => bif xhas L k then go (xst L k (.float x)) st h c s else False
  | .astore_n k => pA st fun x st => bif xhas L k.val then go (xst L k.val x) st h c s else False
  | .astore k => pA st fun x st => bif xhas L k then go (xst L k x) st h c s else False
  | .iinc k _ => xli L k fun x => xli [some v] 0 fun y => bif xhas L k then go (xst L k (.int (x + y))) st h c s else False
  | .iadd => pI st fun y st => pI st fun x st => go L (.int (x + y) :: st) h c s
  | .isub => pI st fun y st => pI st fun x st => go L (.int (x - y) :: st) h c s
  | .imul => pI st fun y st => pI st fun x st => go L (.int (x * y) :: st) h c s
  | .iand => pI st fun y st => pI st fun x st => go L (.int (x &&& y) :: st) h c s
  | .ior => pI st fun y st => pI st fun x st => go L (.int (x ||| y) :: st) h c s
  | .ixor => pI st fun y st => pI st fun x st => go L (.int (x ^^^ y) :: st) h c s
  | .idiv => pI st fun y st => pI st fun x st => ¬ y = 0 ∧ go L (.int (x / y) :: st) h c s
  | .irem => pI st fun y st => pI st fun x st => ¬ y = 0 ∧ go L (.int (x - x / y * y) :: st) h c s
  | .ishl => pI st fun y st => pI st fun x st => go L (.int (x <<< (y &&& 31)) :: st) h c s
  | .ishr => pI st fun y st => pI st fun x st => go L (.int (x >>> (y &&& 31)) :: st) h c s
  | .iushr => pI st fun y st => pI st fun x st => go L (.int (x.toUInt32 >>> (y.toUInt32 &&& Int32.toUInt32 31)).toInt32 :: st) h c s
  | .lshl => pI st fun y st => pJ st fun x st => go L (.long (x <<< (y.toInt64 &&& 63)) :: st) h c s
  | .ladd => pJ st fun y st => pJ st fun x st => go L (.long (x + y) :: st) h c s
  | .lmul => pJ st fun y st => pJ st fun x st => go L (.long (x * y) :: st) h c s
  | .lcmp => pJ st fun y st => pJ st fun x st => go L (.int (lg_cmp x y) :: st) h c s
  | .fcmp op => pF st fun y st => pF st fun x st => go L (.int (Op.cmpValue (FP.fcmp x y) op) :: st) h c s
  | .dcmp op => pD st fun y st => pD st fun x st => go L (.int (Op.cmpValue (FP.dcmp x y) op) :: st) h c s
  | .i2l => pI st fun x st => go L (.long x.toInt64 :: st) h c s
  | .i2f => pI st fun x st => go L (.float (FP.i2f x) :: st) h c s
  | .i2d => pI st fun x st => go L (.double (FP.i2d x) :: st) h c s
  | .i2c => pI st fun x st => go L (.int (x.toUInt32 % 65536).toInt32 :: st) h c s
  | .l2d => pJ st fun x st => go L (.double (FP.l2d x) :: st) h c s
  | .d2l => pD st fun x st => go L (.long (FP.d2l x) :: st) h c s
  | .f2d => pF st fun x st => vf_n64 (FP.f2d x) ∧ go L (.double (FP.f2d x) :: st) h c s
  | .dsub => pD st fun y st => pD st fun x st => vf_n64 (FP.dsub x y) ∧ go L (.double (FP.dsub x y) :: st) h c s
  | .dmul => pD st fun y st => pD st fun x st => vf_n64 (FP.dmul x y) ∧ go L (.double (FP.dmul x y) :: st) h c s
  | .ddiv => pD st fun y st => pD st fun x st => vf_n64 (FP.ddiv x y) ∧ go L (.double (FP.ddiv x y) :: st) h c s
  | .fdiv => pF st fun y st => pF st fun x st => vf_n32 (FP.fdiv x y) ∧ go L (.float (FP.fdiv x y) :: st) h c s
  | .dup => p1 st fun x st => go L (x :: x :: st) h c s
  | .pop => p1 st fun _ st => go L st h c s
  | .dup2 => p1 st fun x st => p1 st fun y st => go L (x :: y :: x :: y :: st) h c s
  | .goto _ => K r1 L st h c s
  | .ifCond op _ => pI st fun x st => xif op x (K r1 L st h c s) (go L st h c s)
  | .if_icmp op _ => pI st fun y st => pI st fun x st => xic op x y (K r1 L st h c s) (go L st h c s)
  | .ifnonnull _ => pA st fun x st => (x = .null → go L st h c s) ∧ (¬ x = .null → K r1 L st h c s)
  | .tableswitch _ _ _ _ => pI st fun x st => xsw (K r1 L st h c s) x r2 (tb.map fun b => K b L st h c s)
  | .getstatic _ => go L (.ref 1000 :: st) h c s
  | .getfield _ => pR st fun a st => xhv h a (r1 + 5) fun vs => match vs[r2]? with
    | some x => go L (x :: st) h c s
    | none => False
  | .putfield _ => p1 st fun x st => pR st fun a st => xhv h a (r1 + 5) fun vs => match vs[r2]? with
    | some _ => xfit (tb.headD 0) x (go L st (h.set a (r1 + 5, [], vs.set r2 x)) c s)
    | none => False
  | .iaload => pI st fun i st => pR st fun a st => xai sc h a fun l => vp_in i l.length ∧ go L (.int (l.getD i.toNatClampNeg 0) :: st) h c s
  | .caload => pI st fun i st => pR st fun a st => xhi h a 1 fun l => vp_in i l.length ∧ go L (.int (l.getD i.toNatClampNeg 0) :: st) h c s
  | .baload => pI st fun i st => pR st fun a st => xhi h a 2 fun l => vp_in i l.length ∧ go L (.int (l.getD i.toNatClampNeg 0) :: st) h c s
  | .aaload => pI st fun i st => pR st fun a st => xhv h a 4 fun l => vp_in i l.length ∧ go L (xrf (l.getD i.toNatClampNeg .null) :: st) h c s
  | .iastore => pI st fun x st => pI st fun i st => pR st fun a st => xhi h a 0 fun l => vp_in i l.length ∧ go L st (h.set a (0, l.set i.toNatClampNeg x, [])) c s
  | .castore => pI st fun x st => pI st fun i st => pR st fun a st => xhi h a 1 fun l => vp_in i l.length ∧ go L st (h.set a (1, l.set i.toNatClampNeg (vp_nar .char x), [])) c s
  | .bastore => pI st fun x st => pI st fun i st => pR st fun a st => xhi h a 2 fun l => vp_in i l.length ∧ go L st (h.set a (2, l.set i.toNatClampNeg (vp_nar .boolean x), [])) c s
  | .aastore => pR st fun x st => pI st fun i st => pR st fun a st => xhv h a 4 fun l => xhv h x 5 fun _ => vp_in i l.length ∧ go L st (h.set a (4, [], l.set i.toNatClampNeg (.ref x))) c s
  | .arraylength => pR st fun a st => xal sc h a fun n => go L (.int (nI n) :: st) h c s
  | .newarray t => pI st fun n st => ¬ n < 0 ∧ n.toNatClampNeg ≤ 1000000 ∧ al = true ∧ c + 1 ≤ mc ∧ s + n.toNatClampNeg ≤ ms ∧ h.length < 1000 ∧ xwL h.length L ∧ xwS h.length st ∧ xwH h.length h ∧
      match xtag t with
      | some (g, true) => go L (.ref h.length :: st) (h ++ [(g, List.replicate n.toNatClampNeg 0, [])]) (c + 1) (s + n.toNatClampNeg)
      | some (g, false) => go L (.ref h.length :: st) (h ++ [(g, [], List.replicate n.toNatClampNeg (.long 0))]) (c + 1) (s + n.toNatClampNeg)
      | none => False
  | .anewarray _ => pI st fun n st => ¬ n < 0 ∧ n.toNatClampNeg ≤ 1000000 ∧ al = true ∧ c + 1 ≤ mc ∧ s + n.toNatClampNeg ≤ ms ∧ h.length < 1000 ∧ xwL h.length L ∧ xwS h.length st ∧ xwH h.length h ∧
      go L (.ref h.length :: st) (h ++ [(4, [], List.replicate n.toNatClampNeg .null)]) (c + 1) (s + n.toNatClampNeg)
  | .new _ => bif xnew r1 then al = true ∧ c + 1 ≤ mc ∧ s + (xdef r1).length ≤ ms ∧ h.length < 1000 ∧ xwL h.length L ∧ xwS h.length st ∧ xwH h.length h ∧
      go L (.ref h.length :: st) (h ++ [(r1 + 5, [], xdef r1)]) (c + 1) (s + (xdef r1).length)
    else xsm st (c + 1 ≤ mc ∧ s + 6 ≤ ms ∧ X r1 h)
  | .invokestatic _ =>
    bif r1 == 900 then pI st fun n st => pI st fun dp st => pR st fun b st => pI st fun sp st => pR st fun a st => xsm st <| xhi h a 0 fun f => xhi h b 0 fun g =>
      ¬ sp < 0 ∧ ¬ dp < 0 ∧ ¬ n < 0 ∧ sp.toNatClampNeg + n.toNatClampNeg ≤ f.length ∧ dp.toNatClampNeg + n.toNatClampNeg ≤ g.length ∧ go L st (h.set b (0, xcpy f g sp.toNatClampNeg dp.toNatClampNeg n.toNatClampNeg, [])) c s
    else bif r1 == 904 then pD st fun x st => xsm st (go L (.long x.toInt64 :: st) h c s)
    else bif r1 == 905 then pF st fun x st => xsm st (go L (.int x.toInt32 :: st) h c s)
    else xpop r2 [] st fun a st => xcall E mc ms al r1 tb a L st h c s go
  | .invokespecial _ =>
    bif r1 == 901 then pR st fun _ st => xsm st (go L st h c s)
    else xpop r2 [] st fun a st => match a with
      | .ref _ :: _ => xcall E mc ms al r1 tb a L st h c s go
      | _ => False
  | .invokevirtual _ => xpop r2 [] st fun a st => match a with
    | .ref b :: _ => xhv h b (tb.headD 0 + 5) fun _ => xcall E mc ms al r1 tb a L st h c s go
    | _ => False
  | .ireturn => pI st fun x st => p0 st <| xret ret x (c ≤ mc ∧ s ≤ ms ∧ Q (some (.int x)) h)
  | .lreturn => pJ st fun x st => p0 st <| xrtl ret (c ≤ mc ∧ s ≤ ms ∧ Q (some (.long x)) h)
  | .freturn => pF st fun x st => p0 st <| xrtf ret (c ≤ mc ∧ s ≤ ms ∧ Q (some (.float x)) h)
  | .dreturn => pD st fun x st => p0 st <| xrtd ret (c ≤ mc ∧ s ≤ ms ∧ Q (some (.double x)) h)
  | .areturn => pA st fun x st => p0 st <| xrta ret (c ≤ mc ∧ s ≤ ms ∧ Q (some x) h)
  | .return_ => p0 st <| xrtv ret (c ≤ mc ∧ s ≤ ms ∧ Q none h)
  | _ => False
def wpI (nx : Nat) : List xE → xL → List Value → xH → Nat → Nat → Prop
  | [], L, st, h, c, s => K nx L st h c s
  | e :: es, L, st, h, c, s => xop sc E ret mc ms al Q X K e.1 e.2.2.1 e.2.2.2.1 e.2.2.2.2.1 e.2.2.2.2.2 L st h c s (wpI nx es)
end RXW
def xpad (n : Nat) : xL → xL := fun l => l ++ List.replicate (n - l.length) none
def xfl (args : List Value) : xL := args.flatMap fun v => if v.category = 2 then [some v, none] else [some v]
def xent (n : Nat) (args : List Value) : xL := xpad n (xfl args)
/-- a method does: from these arguments and this heap it ends as Q says, or throws as X says; calls at most d deep -/
def Ev (T : List xM) : Nat → Nat → List Value → xH → (Option Value → xH → Prop) → (Nat → xH → Prop) → Prop
  | 0, _, _, _, _, _ => False
  | d + 1, M, args, h, Q, X => ∃ m : xM, T[M]? = some m ∧ (xfl args).length ≤ m.2.2.1 ∧ ∀ (Q' : Option Value → xH → Prop) (X' : Nat → xH → Prop), (∀ v g, Q v g → Q' v g) → (∀ k g, X k g → X' k g) → ∀ K : xK,
      (∀ (b : Nat) (B : xB) (L : xL) (st : List Value) (g : xH) (c s : Nat), m.2.2.2.2.2.2.2[b]? = some B →
        wpI none (fun M' a' h' Q' => Ev T d M' a' h' Q' (fun _ _ => False)) m.2.2.2.1 m.2.2.2.2.1 m.2.2.2.2.2.1 m.2.2.2.2.2.2.1 Q' X' K B.2.2 B.2.1 L st g c s → K b L st g c s) →
      K 0 (xent m.2.2.1 args) [] h 0 0
