theorem tn_nI {w : Nat} (h : w < 2 ^ 31) : tn (nI w) = w := nI_clamp h
theorem co_back {x : Int32} {d : Nat} (h : x = nI (d + 1) - 2 ∧ d + 1 ≤ 33 ∧ 1 ≤ d + 1) (h1 : ¬ x < 0) : x + (-1) = nI d - 2 ∧ d ≤ 33 ∧ 1 ≤ d := by
  obtain ⟨rfl, h2, -⟩ := h
  have key : ∀ d, d < 33 → ¬ (nI (d + 1) - 2 < 0) → nI (d + 1) - 2 + (-1) = nI d - 2 ∧ d ≤ 33 ∧ 1 ≤ d := by decide +kernel
  exact key d (by omega) h1
