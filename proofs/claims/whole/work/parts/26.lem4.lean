theorem isEnd_ok {G : Mem} {a : Int32} (h : ¬ sp_M_isEnd G a = 0) : a = 0 ∨ a = 1 := by
  unfold sp_M_isEnd at h
  by_cases h0 : a = 0
  · exact Or.inl h0
  · by_cases h1 : a = 1
    · exact Or.inr h1
    · exact absurd (by simp [h0, h1]) h
theorem within_ok {G : Mem} {v lo hi : Int32} (h : ¬ sp_M_within G v lo hi = 0) : lo ≤ v ∧ v ≤ hi := by
  unfold sp_M_within at h
  by_cases h0 : v < lo
  · exact absurd (by simp [h0]) h
  · by_cases h1 : hi < v
    · exact absurd (by simp [h0, h1]) h
    · exact ⟨Int32.not_lt.mp h0, Int32.not_lt.mp h1⟩
theorem ite_le0 {p : Prop} [Decidable p] {x : Int32} (h : (if p then 1 else x) ≤ 0) : ¬ p ∧ x ≤ 0 := by
  by_cases hp : p
  · rw [if_pos hp] at h
    exact absurd h (by decide)
  · rw [if_neg hp] at h
    exact ⟨hp, h⟩
theorem ite_eq0 {p : Prop} [Decidable p] {x : Int32} (h : (if p then 1 else x) = 0) : ¬ p ∧ x = 0 := by
  by_cases hp : p
  · rw [if_pos hp] at h
    exact absurd h (by decide)
  · rw [if_neg hp] at h
    exact ⟨hp, h⟩
theorem e_in {a : Int32} (h : a = 0 ∨ a = 1) : vp_in a 2 := by rcases h with rfl | rfl <;> (unfold vp_in; decide)
theorem ok1 {G : Mem} {a x : Int32} (h : (if sp_M_isEnd G a = 0 then 1 else x) ≤ 0) : a = 0 ∨ a = 1 := isEnd_ok (ite_le0 h).1
theorem ok1e {G : Mem} {a x : Int32} (h : (if sp_M_isEnd G a = 0 then 1 else x) = 0) : a = 0 ∨ a = 1 := isEnd_ok (ite_eq0 h).1
theorem ok2 {G : Mem} {a v lo hi x : Int32} (h : (if sp_M_isEnd G a = 0 then 1 else (if sp_M_within G v lo hi = 0 then 1 else x)) ≤ 0) : lo ≤ v ∧ v ≤ hi := within_ok (ite_le0 (ite_le0 h).2).1
theorem bd_nat {v : Int32} {n : Nat} (hn : n < 2 ^ 31) (h0 : 0 ≤ v) (h1 : v ≤ nI n) : ∃ j : Nat, j ≤ n ∧ v = nI j := nI_of2 (M := nI n) (nI_toInt hn) (Int32.not_lt.mpr h0) h1
theorem count_in {a v : Int32} (he : a = 0 ∨ a = 1) (h : 0 ≤ v ∧ v ≤ 4) : vp_in (5 * a + v) 10 := by
  obtain ⟨j, hj, rfl⟩ := bd_nat (n := 4) (by decide) h.1 h.2
  have key : ∀ j, j < 5 → vp_in (5 * 0 + nI j) 10 ∧ vp_in (5 * 1 + nI j) 10 := by unfold vp_in; decide +kernel
  rcases he with rfl | rfl
  · exact (key j (by omega)).1
  · exact (key j (by omega)).2
theorem load_in {a v : Int32} (he : a = 0 ∨ a = 1) (h : 1 ≤ v ∧ v ≤ 3) : vp_in (4 * a + v) 8 := by
  obtain ⟨j, hj, rfl⟩ := bd_nat (n := 3) (by decide) (Int32.le_trans (by decide : (0 : Int32) ≤ 1) h.1) h.2
  have key : ∀ j, j < 4 → vp_in (4 * 0 + nI j) 8 ∧ vp_in (4 * 1 + nI j) 8 := by unfold vp_in; decide +kernel
  rcases he with rfl | rfl
  · exact (key j (by omega)).1
  · exact (key j (by omega)).2
