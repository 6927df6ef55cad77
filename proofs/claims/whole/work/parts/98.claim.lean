theorem tm_claim (xs : Nat → Int32) (L : Nat) (hL : L ≤ 2048) : ∃ n S', tm_run (xs, L) n 0 0 (tm_ent 0 [.ref 2000]) [] (ts_M0, 0, 0) = some (some 1, S') := by
  obtain ⟨n, ⟨a, S'⟩, h1, h2⟩ := tm_law xs L hL
  have h3 : a = some 1 := h2
  rw [h3] at h1
  exact ⟨n, S', h1⟩
