theorem tn_nI {w : Nat} (h : w < 2 ^ 31) : tn (nI w) = w := nI_clamp h
theorem co_back {x : Int32} {d : Nat} (h : x = nI (d + 1) - 2 ∧ d + 1 ≤ 33 ∧ 1 ≤ d + 1) (h1 : ¬ x < 0) : x + (-1) = nI d - 2 ∧ d ≤ 33 ∧ 1 ≤ d := by
  obtain ⟨rfl, h2, -⟩ := h
  have key : ∀ d, d < 33 → ¬ (nI (d + 1) - 2 < 0) → nI (d + 1) - 2 + (-1) = nI d - 2 ∧ d ≤ 33 ∧ 1 ≤ d := by decide +kernel
  exact key d (by omega) h1
theorem wl_first {G : Mem} {c k : Nat} (hm : ∃ w : Nat, w ≤ 8 ∧ G c k = nI w) : ∃ j w : Nat, j ≤ w ∧ w ≤ 8 ∧ G c k = nI w ∧ (0 : Int32) = nI j ∧ tn (G c k) + 1 = w - j + 1 := by
  obtain ⟨w, h1, h2⟩ := hm
  exact ⟨0, w, Nat.zero_le _, h1, h2, rfl, by rw [h2, tn_nI (by omega)]; omega⟩
theorem wl_lt {v x : Int32} {j w : Nat} (hw : w ≤ 8) (hj : j ≤ w) (hv : v = nI w) (hx : x = nI j) (h1 : ¬ v ≤ x) : j < w := by
  subst hv; subst hx
  rcases Nat.lt_or_ge j w with h | h
  · exact h
  · exact absurd (nI_le h (by omega)) h1
theorem wl_back {G : Mem} {c k d : Nat} {x : Int32} (h : ∃ j w : Nat, j ≤ w ∧ w ≤ 8 ∧ G c k = nI w ∧ x = nI j ∧ d + 1 = w - j + 1) (h1 : ¬ G c k ≤ x) : ∃ j w : Nat, j ≤ w ∧ w ≤ 8 ∧ G c k = nI w ∧ x + 1 = nI j ∧ d = w - j + 1 := by
  obtain ⟨j, w, a, b, e, f, g⟩ := h
  have hl := wl_lt b a e f h1
  exact ⟨j + 1, w, hl, b, e, by rw [f, nI_1], by omega⟩
theorem pl_in {G : Mem} {c k d : Nat} {x : Int32} (h : ∃ j w : Nat, j ≤ w ∧ w ≤ 8 ∧ G c k = nI w ∧ x = nI j ∧ d + 1 = w - j + 1) (h1 : ¬ G c k ≤ x) : vp_in x 8 := by
  obtain ⟨j, w, a, b, e, f, g⟩ := h
  have hl := wl_lt b a e f h1
  rw [f]
  exact vp_in_nI (by omega) (by omega)
theorem e8_in : ∀ j, j < 8 → vp_in (8 * 0 + nI j) 16 ∧ vp_in (8 * 1 + nI j) 16 := by unfold vp_in; decide +kernel
theorem sd_in {a1 : Int32} {G : Mem} {c k d : Nat} {x : Int32} (he : a1 = 0 ∨ a1 = 1) (h : ∃ j w : Nat, j ≤ w ∧ w ≤ 8 ∧ G c k = nI w ∧ x = nI j ∧ d + 1 = w - j + 1) (h1 : ¬ G c k ≤ x) : vp_in (8 * a1 + x) 16 := by
  obtain ⟨j, w, a, b, e, f, g⟩ := h
  have hl := wl_lt b a e f h1
  rw [f]
  rcases he with rfl | rfl
  · exact (e8_in j (by omega)).1
  · exact (e8_in j (by omega)).2
