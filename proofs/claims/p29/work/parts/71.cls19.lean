/-! the class: digest -/
set_option maxRecDepth 100000 in
set_option maxHeartbeats 4000000 in
theorem ev_count0 (d : Nat) (N V S C : List Nat) (P : List Value) (sv tl : Nat) (has : Bool) (g : xH) (k : Nat) (ok : stN N) (hk : k < 10) :
    Ev xT (d + 6) N_B_count [.ref 0, .int (nI k)] (hB N V S C P sv tl has g) (Rt (some (.int (cntR N sv (nI k)))) (hB N V S C P sv tl has g)) NX := by
  have key : ∀ k, k < 10 → cntE (nI k) = 0 := by decide +kernel
  exact Ev_mono (ev_count d N V S C P sv tl has g (nI k) ok) (fun v g q => ⟨q.2.1, q.2.2⟩) (fun _ g q => absurd (key k hk) q.1)
set_option maxRecDepth 100000 in
set_option maxHeartbeats 4000000 in
theorem ev_wins0 (d : Nat) (N V S C : List Nat) (P : List Value) (sv tl : Nat) (has : Bool) (g : xH) (t : Nat) (ok : stN N) (gk : gOk P g) (ht : t < 2) :
    Ev xT (d + 6) N_B_wins [.ref 0, .int (nI t)] (hB N V S C P sv tl has g) (clQ N V S C sv tl has g 0 (some (.int (nI (if wonB (plN N) t (N.getD 0 0) then 1 else 0))))) NX := by
  have key : ∀ t, t < 2 → turnE (nI t) = 0 := by decide +kernel
  have h := ev_wins d N V S C P sv tl has g (nI t) ok gk
  rw [n_cl (by omega), key t ht] at h
  exact Ev_mono h (fun v g q => q) (fun _ g q => absurd rfl q.1)
set_option maxRecDepth 100000 in
set_option maxHeartbeats 4000000 in
theorem ev_length0 (d : Nat) (N V S C : List Nat) (P : List Value) (sv tl : Nat) (has : Bool) (g : xH) (t : Nat) (ok : stN N) (gk : gOk P g) (ht : t < 2) :
    Ev xT (d + 6) N_B_length [.ref 0, .int (nI t)] (hB N V S C P sv tl has g) (clQ N V S C sv tl has g 0 (some (.int (nI (if t = 0 then lonN (plN N) (N.getD 1 0) (N.getD 0 0) else shoN (plN N) (N.getD 1 0) (N.getD 0 0)))))) NX := by
  have key : ∀ t, t < 2 → turnE (nI t) = 0 := by decide +kernel
  have h := ev_length d N V S C P sv tl has g (nI t) ok gk
  rw [key t ht] at h
  have e : (nI t = 0) = (t = 0) := propext (n_e0 (by omega))
  simp only [e] at h
  exact Ev_mono h (fun v g q => q) (fun _ g q => absurd rfl q.1)
set_option maxRecDepth 100000 in
set_option maxHeartbeats 4000000 in
theorem ev_pyramids0 (d : Nat) (N V S C : List Nat) (P : List Value) (sv tl : Nat) (has : Bool) (g : xH) (w : Nat) (ok : stN N) (gk : gOk P g) (hw : w < 4) :
    Ev xT (d + 6) N_B_pyramids [.ref 0, .int (nI w)] (hB N V S C P sv tl has g) (clQ N V S C sv tl has g 0 (some (.int (nI (pyrR N (nI w)))))) NX := by
  have key : ∀ t, t < 4 → pyrE (nI t) = 0 := by decide +kernel
  have h := ev_pyramids d N V S C P sv tl has g (nI w) ok gk
  rw [key w hw] at h
  exact Ev_mono h (fun v g q => q) (fun _ g q => absurd rfl q.1)
