/-! class and model: what is the same of shapes -/
def sumB (f : Nat → Bool) : Bool := f 0 && f 1 && f 2 && f 3 && f 4
def ckR (m t r b : Nat) : Bool := bif Nat.blt (pop (bitsN m r)) b then !(Nat.beq (robN m t r b).2 0) else
  (Nat.beq (robN m t r b).2 0 && Nat.beq (robN m t r b).1 (mrN m t r b) && Nat.beq (settledN (mrN m t r b)) (mfN (mrN m t r b)) &&
    sumB (fun q => Nat.beq (pop (bitsN (fallM (mrN m t r b)) q) + pop (bitsN (mfN (mrN m t r b)) q)) (pop (bitsN (mrN m t r b) q))) && Nat.beq (pop (fallM (mrN m t r b)) + pop (mfN (mrN m t r b))) (pop (mrN m t r b)) &&
    (Nat.blt (pop (mfN (mrN m t r b))) (pop (mrN m t r b)) == !(Nat.beq (mfN (mrN m t r b)) (mrN m t r b))) && (slotN (mfN (mrN m t r b))).isSome)
def ckK (m r p : Nat) : Bool := !(hasN m r p) || (Nat.beq (settledN (kncU m r p)) (mfN (kncU m r p)) &&
    sumB (fun q => Nat.beq (pop (bitsN (fallM (kncU m r p)) q) + (bif Nat.beq q r then 1 else 0) + pop (bitsN (mfN (kncU m r p)) q)) (pop (bitsN m q))) && Nat.beq (pop (fallM (kncU m r p)) + 1 + pop (mfN (kncU m r p))) (pop m) && (slotN (mfN (kncU m r p))).isSome)
def ckP (m r p : Nat) : Bool := !(hasRoomN m r p) || (slotN (m ||| 1 <<< (rsN r + p))).isSome
def ckL (m r : Nat) : Bool := decide (lowI m r (5 - r) 0 = edM m r true (5 - r) 0 (-1)) && decide (highI m r (5 - r) = edM m r false (5 - r) 0 (-1))
theorem ckR_0 : shL.all (fun m => (List.range 5).all fun r => [1, 2, 3, 4, 5].all fun b => ckR m 0 r b) = true := by decide +kernel
theorem ckR_1 : shL.all (fun m => (List.range 5).all fun r => [1, 2, 3, 4, 5].all fun b => ckR m 1 r b) = true := by decide +kernel
theorem ckK_0 : shL.all (fun m => (List.range 5).all fun r => (List.range (5 - r)).all fun p => ckK m r p && ckP m r p) = true := by decide +kernel
theorem ckL_0 : shL.all (fun m => ((List.range 5).all fun r => ckL m r) && (slotN (mirN m)).isSome) = true := by decide +kernel
