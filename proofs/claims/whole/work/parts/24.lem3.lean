theorem pl_spec (c : Nat) (a1 : Int32) (G : Mem) {w : Nat} (hw : w ≤ 8) (hG : G c 2 = nI w) : ∀ (d j : Nat), j ≤ w → d = w - j + 1 → ∃ k, j ≤ k ∧ k ≤ w ∧ sp_A_placeOf_2 c a1 d G (nI j) = nI k ∧ (k < w → G (c + 1) k = a1) ∧ ∀ i, j ≤ i → i < k → G (c + 1) i ≠ a1 := by
  intro d
  induction d with
  | zero => intro j hj hd; omega
  | succ d ih =>
    intro j hj hd
    rw [sp_A_placeOf_2, hG]
    by_cases h : j = w
    · subst h
      exact ⟨j, Nat.le_refl _, Nat.le_refl _, if_pos (nI_le (Nat.le_refl _) (by omega)), fun h => by omega, fun i a b => by omega⟩
    · have hlt : j < w := by omega
      rw [if_neg (nI_ge hlt (by omega)), tn_nI (by omega)]
      by_cases h2 : G (c + 1) j = a1
      · exact ⟨j, Nat.le_refl _, hj, if_pos h2, fun _ => h2, fun i a b => by omega⟩
      · rw [if_neg h2, nI_1]
        obtain ⟨k, h3, h4, h5, h6, h7⟩ := ih (j + 1) (by omega) (by omega)
        refine ⟨k, by omega, h4, h5, h6, fun i a b => ?_⟩
        by_cases hi : i = j
        · subst hi; exact h2
        · exact h7 i (by omega) b
theorem place_spec {c : Nat} {G : Mem} (hm : ∃ w : Nat, w ≤ 8 ∧ G c 2 = nI w) (a1 : Int32) : ∃ w k : Nat, w ≤ 8 ∧ G c 2 = nI w ∧ k ≤ w ∧ sp_A_placeOf c G a1 = nI k ∧ (k < w → G (c + 1) k = a1) ∧ ∀ i, i < k → G (c + 1) i ≠ a1 := by
  obtain ⟨w, hw, hG⟩ := hm
  obtain ⟨k, -, h4, h5, h6, h7⟩ := pl_spec c a1 G hw hG (w + 1) 0 (Nat.zero_le _) (by omega)
  refine ⟨w, k, hw, hG, h4, ?_, h6, fun i h => h7 i (Nat.zero_le _) h⟩
  rw [sp_A_placeOf, hG, tn_nI (by omega)]
  exact h5
theorem ch_in {c : Nat} {G : Mem} {a1 : Int32} (hm : ∃ w : Nat, w ≤ 8 ∧ G c 2 = nI w) (h1 : sp_A_placeOf c G a1 < 8) : vp_in (sp_A_placeOf c G a1) 8 := by
  obtain ⟨w, k, hw, -, hk, e, -, -⟩ := place_spec hm a1
  rw [e] at h1 ⊢
  have : k < 8 := (nI_ltI (b := 8) (by omega) (by omega)).mp h1
  exact vp_in_nI this (by omega)
theorem ac_in {c : Nat} {G : Mem} {a1 : Int32} (hm : ∃ w : Nat, w ≤ 8 ∧ G c 2 = nI w) (h1 : sp_A_placeOf c G a1 < G c 2) : vp_in (sp_A_placeOf c G a1) 8 := by
  obtain ⟨w, k, hw, hG, hk, e, -, -⟩ := place_spec hm a1
  rw [e, hG] at h1
  rw [e]
  have : k < w := (nI_ltI (by omega) (by omega)).mp h1
  exact vp_in_nI (by omega) (by omega)
theorem ac_in2 {c : Nat} {G : Mem} {a1 : Int32} (hm : ∃ w : Nat, w ≤ 8 ∧ G c 2 = nI w) (h1 : sp_A_placeOf c G a1 < G c 2) : vp_in (G c 2 - 1) 8 := by
  obtain ⟨w, k, hw, hG, hk, e, -, -⟩ := place_spec hm a1
  rw [e, hG] at h1
  rw [hG]
  have : k < w := (nI_ltI (by omega) (by omega)).mp h1
  obtain ⟨v, rfl⟩ : ∃ v, w = v + 1 := ⟨w - 1, by omega⟩
  rw [nI_pred]
  exact vp_in_nI (by omega) (by omega)
theorem sd_spec (a1 a2 : Int32) (G : Mem) {w : Nat} (hw : w ≤ 8) (hG : G 32 (tn a1) = nI w) : ∀ (d j : Nat) (x3 : Int32), j ≤ w → d = w - j + 1 → (sp_M_said_5 a1 a2 d G x3 (nI j) = x3 ∧ ∀ i, j ≤ i → i < w → G 33 (tn (8 * a1 + nI i)) ≠ a2) ∨ ∃ k, j ≤ k ∧ k < w ∧ sp_M_said_5 a1 a2 d G x3 (nI j) = nI k ∧ G 33 (tn (8 * a1 + nI k)) = a2 ∧ ∀ i, k < i → i < w → G 33 (tn (8 * a1 + nI i)) ≠ a2 := by
  intro d
  induction d with
  | zero => intro j x3 hj hd; omega
  | succ d ih =>
    intro j x3 hj hd
    rw [sp_M_said_5, hG]
    by_cases h : j = w
    · subst h
      exact Or.inl ⟨if_pos (nI_le (Nat.le_refl _) (by omega)), fun i a b => by omega⟩
    · have hlt : j < w := by omega
      rw [if_neg (nI_ge hlt (by omega)), nI_1]
      rcases ih (j + 1) (if G 33 (tn (8 * a1 + nI j)) = a2 then nI j else x3) (by omega) (by omega) with ⟨h1, h2⟩ | ⟨k, h1, h2, h3, h4, h5⟩
      · by_cases h3 : G 33 (tn (8 * a1 + nI j)) = a2
        · refine Or.inr ⟨j, Nat.le_refl _, hlt, h1.trans (if_pos h3), h3, fun i a b => h2 i (by omega) b⟩
        · refine Or.inl ⟨h1.trans (if_neg h3), fun i a b => ?_⟩
          by_cases hi : i = j
          · subst hi; exact h3
          · exact h2 i (by omega) b
      · exact Or.inr ⟨k, by omega, h2, h3, h4, h5⟩
theorem said_spec {G : Mem} {a1 : Int32} (hm : ∃ w : Nat, w ≤ 8 ∧ G 32 (tn a1) = nI w) (a2 : Int32) : ∃ w : Nat, w ≤ 8 ∧ G 32 (tn a1) = nI w ∧ ((sp_M_said G a1 a2 = -1 ∧ ∀ i, i < w → G 33 (tn (8 * a1 + nI i)) ≠ a2) ∨ ∃ k, k < w ∧ sp_M_said G a1 a2 = nI k ∧ G 33 (tn (8 * a1 + nI k)) = a2 ∧ ∀ i, k < i → i < w → G 33 (tn (8 * a1 + nI i)) ≠ a2) := by
  obtain ⟨w, hw, hG⟩ := hm
  refine ⟨w, hw, hG, ?_⟩
  rw [sp_M_said, hG, tn_nI (by omega)]
  rcases sd_spec a1 a2 G hw hG (w + 1) 0 (-1) (Nat.zero_le _) (by omega) with ⟨h1, h2⟩ | ⟨k, -, h2, h3, h4, h5⟩
  · exact Or.inl ⟨h1, fun i h => h2 i (Nat.zero_le _) h⟩
  · exact Or.inr ⟨k, h2, h3, h4, h5⟩
theorem said_pos {G : Mem} {a1 a2 : Int32} (hm : ∃ w : Nat, w ≤ 8 ∧ G 32 (tn a1) = nI w) (h1 : 0 ≤ sp_M_said G a1 a2) : ∃ w k : Nat, w ≤ 8 ∧ G 32 (tn a1) = nI w ∧ k < w ∧ sp_M_said G a1 a2 = nI k := by
  obtain ⟨w, hw, hG, ⟨e, -⟩ | ⟨k, hk, e, -, -⟩⟩ := said_spec hm a2
  · rw [e] at h1
    exact absurd h1 (by decide)
  · exact ⟨w, k, hw, hG, hk, e⟩
theorem cm_in {G : Mem} {a1 a2 : Int32} (he : a1 = 0 ∨ a1 = 1) (hm : ∃ w : Nat, w ≤ 8 ∧ G 32 (tn a1) = nI w) (h1 : 0 ≤ sp_M_said G a1 a2) : vp_in (8 * a1 + sp_M_said G a1 a2) 16 := by
  obtain ⟨w, k, hw, -, hk, e⟩ := said_pos hm h1
  rw [e]
  rcases he with rfl | rfl
  · exact (e8_in k (by omega)).1
  · exact (e8_in k (by omega)).2
theorem cm_in2 {G : Mem} {a1 a2 : Int32} (he : a1 = 0 ∨ a1 = 1) (hm : ∃ w : Nat, w ≤ 8 ∧ G 32 (tn a1) = nI w) (h1 : 0 ≤ sp_M_said G a1 a2) : vp_in (8 * a1 + (G 32 (tn a1) - 1)) 16 := by
  obtain ⟨w, k, hw, hG, hk, e⟩ := said_pos hm h1
  obtain ⟨v, rfl⟩ : ∃ v, w = v + 1 := ⟨w - 1, by omega⟩
  rw [hG, nI_pred]
  rcases he with rfl | rfl
  · exact (e8_in v (by omega)).1
  · exact (e8_in v (by omega)).2
theorem rc_first (c : Nat) (G : Mem) : ∃ j w : Nat, j ≤ w ∧ w ≤ 2 ∧ (sp_A_comings c G).1 = nI w ∧ (0 : Int32) = nI j ∧ tn (sp_A_comings c G).1 + 1 = w - j + 1 := by
  unfold sp_A_comings
  by_cases h : zb (G c 3) = 0
  · exact ⟨0, 1, by omega, by omega, if_pos h, rfl, by dsimp only; rw [if_pos h]; rfl⟩
  · exact ⟨0, 2, by omega, by omega, if_neg h, rfl, by dsimp only; rw [if_neg h]; rfl⟩
theorem rc_back {x4 x5 : Int32} {d : Nat} (h : ∃ j w : Nat, j ≤ w ∧ w ≤ 2 ∧ x4 = nI w ∧ x5 = nI j ∧ d + 1 = w - j + 1) (h1 : ¬ x4 ≤ x5) : ∃ j w : Nat, j ≤ w ∧ w ≤ 2 ∧ x4 = nI w ∧ x5 + 1 = nI j ∧ d = w - j + 1 := by
  obtain ⟨j, w, a, b, e, f, g⟩ := h
  have hl : j < w := by
    rcases Nat.lt_or_ge j w with h | h
    · exact h
    · exact absurd (by rw [e, f]; exact nI_le h (by omega)) h1
  exact ⟨j + 1, w, hl, b, e, by rw [f, nI_1], by omega⟩
