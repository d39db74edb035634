/-! ===== the class: parts of the digest ===== -/
set_option maxRecDepth 100000 in
set_option maxHeartbeats 4000000 in
theorem ev_row0 (d : Nat) (N : List Nat) (vs : List Value) (g : xH) (r k : Nat) (ok : stN N) (hr : r < 5) (hk : k < 6) : Ev xT (d + 5) N_B_row [.ref 0, .int (nI r), .int (nI k)] (hN1 N vs g) (Rt (some (.int (rowR N r (nI k)))) (hN1 N vs g)) NX := by
  have key : ∀ r, r < 5 → ∀ k, k < 6 → rowE (nI r) (nI k) = 0 := by decide +kernel
  have h := ev_row d N vs g (nI r) (nI k) ok
  rw [n_cl (by omega)] at h
  exact Ev_mono h (fun v g q => ⟨q.2.1, q.2.2⟩) (fun _ g q => absurd (key r hr k hk) q.1)
set_option maxRecDepth 100000 in
set_option maxHeartbeats 4000000 in
theorem ev_why0 (d : Nat) (N : List Nat) (vs : List Value) (g : xH) (r k : Nat) (ok : stN N) (hr : r < 5) (hk : k < 3) : Ev xT (d + 4) N_B_why [.ref 0, .int (nI r), .int (nI (k + 1))] (hN1 N vs g) (Rt (some (.int (nI (rsnN N r (k + 1))))) (hN1 N vs g)) NX := by
  have key : ∀ r, r < 5 → ∀ k, k < 3 → whyE (nI r) (nI (k + 1)) = 0 := by decide +kernel
  have h := ev_why d N vs g (nI r) (nI (k + 1)) ok
  rw [n_cl (by omega), n_cl (by omega)] at h
  exact Ev_mono h (fun v g q => ⟨q.2.1, q.2.2⟩) (fun _ g q => absurd (key r hr k hk) q.1)
set_option maxRecDepth 100000 in
set_option maxHeartbeats 4000000 in
theorem ev_falls0 (d : Nat) (N : List Nat) (vs : List Value) (g : xH) (r k : Nat) (ok : stN N) (hr : r < 5) (hk : k < 3) : Ev xT (d + 4) N_B_falls [.ref 0, .int (nI r), .int (nI (k + 1))] (hN1 N vs g) (Rt (some (.int (fallI (N.getD 0 0) (N.getD 1 0) r (k + 1)))) (hN1 N vs g)) NX := by
  have key : ∀ r, r < 5 → ∀ k, k < 3 → whyE (nI r) (nI (k + 1)) = 0 := by decide +kernel
  have h := ev_falls d N vs g (nI r) (nI (k + 1)) ok
  rw [n_cl (by omega), n_cl (by omega)] at h
  exact Ev_mono h (fun v g q => ⟨q.2.1, q.2.2⟩) (fun _ g q => absurd (key r hr k hk) q.1)
