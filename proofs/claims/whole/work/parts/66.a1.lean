/-! arrivals -/
def ix8 (e : Int32) (k : Nat) : Nat := tn (8 * e + nI k)
theorem ix8_inj {e : Int32} (he : e = 0 ∨ e = 1) {i j : Nat} (hi : i < 8) (hj : j < 8) (h : ix8 e i = ix8 e j) : i = j := by
  have key : ∀ i, i < 8 → ix8 0 i = i ∧ ix8 1 i = 8 + i := by unfold ix8; decide +kernel
  obtain ⟨a1, a2⟩ := key i hi
  obtain ⟨b1, b2⟩ := key j hj
  rcases he with rfl | rfl
  · rw [a1, b1] at h; exact h
  · rw [a2, b2] at h; omega
def RA (A B : Mem) (b : Nat) (e : Int32) : Prop :=
  zb (A (b + 4) 3) = B 35 (tn e) ∧ ∃ w : Nat, w ≤ 8 ∧ A (b + 4) 2 = nI w ∧ B 32 (tn e) = nI w ∧ (∀ k, k < w → A (b + 5) k = B 33 (ix8 e k) ∧ A (b + 6) k = B 34 (ix8 e k)) ∧ ∀ i j, i < w → j < w → A (b + 5) i = A (b + 5) j → i = j
theorem RA_find {A B : Mem} {b : Nat} {e t : Int32} {w : Nat} (hw : w ≤ 8) (h2 : A (b + 4) 2 = nI w) (h32 : B 32 (tn e) = nI w) (hk : ∀ k, k < w → A (b + 5) k = B 33 (ix8 e k) ∧ A (b + 6) k = B 34 (ix8 e k)) (hd : ∀ i j, i < w → j < w → A (b + 5) i = A (b + 5) j → i = j) :
    (sp_A_placeOf (b + 4) A t = nI w ∧ sp_M_said B e t = -1 ∧ ∀ i, i < w → A (b + 5) i ≠ t) ∨ ∃ k, k < w ∧ sp_A_placeOf (b + 4) A t = nI k ∧ sp_M_said B e t = nI k ∧ A (b + 5) k = t := by
  obtain ⟨w1, k, hw1, hG, hkw, hp, hp1, hp2⟩ := place_spec (c := b + 4) (G := A) ⟨w, hw, h2⟩ t
  have e1 : w1 = w := nI_inj (by omega) (by omega) (hG.symm.trans h2)
  subst e1
  obtain ⟨w2, hw2, hG2, hs⟩ := said_spec (G := B) (a1 := e) ⟨w1, hw, h32⟩ t
  have e2 : w2 = w1 := nI_inj (by omega) (by omega) (hG2.symm.trans h32)
  subst e2
  rcases Nat.lt_or_ge k w2 with c1 | c1
  · right
    have ht := hp1 c1
    refine ⟨k, c1, hp, ?_, ht⟩
    rcases hs with ⟨-, hn⟩ | ⟨k2, hk2, hs2, ht2, -⟩
    · exact absurd ((hk k c1).1.symm.trans ht) (hn k c1)
    · have e3 : k2 = k := hd k2 k hk2 c1 (((hk k2 hk2).1.trans ht2).trans ht.symm)
      rw [hs2, e3]
  · left
    have e4 : k = w2 := by omega
    subst e4
    refine ⟨hp, ?_, fun i hi => hp2 i hi⟩
    rcases hs with ⟨h9, -⟩ | ⟨k2, hk2, hs2, ht2, -⟩
    · exact h9
    · exact absurd ((hk k2 hk2).1.trans ht2) (hp2 k2 hk2)
set_option maxHeartbeats 1000000 in
/-- what comes: the disturbed symbol, or the sent one -/
theorem RA_come {A B : Mem} {b : Nat} {e t s : Int32} (he : e = 0 ∨ e = 1) (h : RA A B b e) (ht : B 21 1 = t) : (sp_A_asItComes (b + 4) A t s).1 = (sp_M_coming B e s).1 ∧ RA (sp_A_asItComes (b + 4) A t s).2 (sp_M_coming B e s).2 b e := by
  obtain ⟨h3, w, hw, h2, h32, hk, hd⟩ := h
  unfold sp_A_asItComes sp_M_coming
  rw [ht]
  rcases RA_find (t := t) hw h2 h32 hk hd with ⟨p1, p2, -⟩ | ⟨k, hkw, p1, p2, -⟩
  · rw [p1, p2, h2, if_neg (show ¬ nI w < nI w from fun h9 => Int32.lt_irrefl h9), if_neg (show ¬ (0 : Int32) ≤ -1 by decide)]
    exact ⟨rfl, h3, w, hw, h2, h32, hk, hd⟩
  · obtain ⟨v, rfl⟩ : ∃ v, w = v + 1 := ⟨w - 1, by omega⟩
    rw [p1, p2, h2, h32, if_pos (nI_lt hkw (by omega)), if_pos (nI_pos' (by omega)), nI_pred, tn_nI (show k < 2 ^ 31 by omega), tn_nI (show v < 2 ^ 31 by omega)]
    refine ⟨(hk k hkw).2, ?_⟩
    show RA (wr (wr (wr A (b + 4) 2 (nI v)) (b + 4 + 1) k (A (b + 4 + 1) v)) (b + 4 + 2) k (A (b + 4 + 2) v)) (wr (wr (wr B 32 (tn e) (nI v)) 33 (ix8 e k) (B 33 (ix8 e v))) 34 (ix8 e k) (B 34 (ix8 e v))) b e
    have A5 : ∀ i, wr (wr (wr A (b + 4) 2 (nI v)) (b + 4 + 1) k (A (b + 4 + 1) v)) (b + 4 + 2) k (A (b + 4 + 2) v) (b + 5) i = if i = k then A (b + 5) v else A (b + 5) i := by
      intro i
      rw [wr_ck _ _ _ _ (by omega), wr_r, wr_ck _ _ _ _ (by omega)]
      by_cases hi : i = k <;> simp [hi]
    have A6 : ∀ i, wr (wr (wr A (b + 4) 2 (nI v)) (b + 4 + 1) k (A (b + 4 + 1) v)) (b + 4 + 2) k (A (b + 4 + 2) v) (b + 6) i = if i = k then A (b + 6) v else A (b + 6) i := by
      intro i
      rw [wr_r, wr_ck _ _ _ _ (by omega), wr_ck _ _ _ _ (by omega)]
      by_cases hi : i = k <;> simp [hi]
    have B33 : ∀ i, i < 8 → wr (wr (wr B 32 (tn e) (nI v)) 33 (ix8 e k) (B 33 (ix8 e v))) 34 (ix8 e k) (B 34 (ix8 e v)) 33 (ix8 e i) = if i = k then B 33 (ix8 e v) else B 33 (ix8 e i) := by
      intro i hi
      rw [wr_ck _ _ _ _ (by decide)]
      by_cases hx : i = k
      · subst hx; rw [wr_same, if_pos rfl]
      · rw [wr_k _ _ _ _ (fun h9 => hx (ix8_inj he hi (by omega) h9)), wr_ck _ _ _ _ (by decide), if_neg hx]
    have B34 : ∀ i, i < 8 → wr (wr (wr B 32 (tn e) (nI v)) 33 (ix8 e k) (B 33 (ix8 e v))) 34 (ix8 e k) (B 34 (ix8 e v)) 34 (ix8 e i) = if i = k then B 34 (ix8 e v) else B 34 (ix8 e i) := by
      intro i hi
      by_cases hx : i = k
      · subst hx; rw [wr_same, if_pos rfl]
      · rw [wr_k _ _ _ _ (fun h9 => hx (ix8_inj he hi (by omega) h9)), wr_ck _ _ _ _ (by decide), wr_ck _ _ _ _ (by decide), if_neg hx]
    refine ⟨?_, v, by omega, ?_, ?_, fun i hi => ⟨?_, ?_⟩, fun i j hi hj hij => ?_⟩
    · rw [wr_ck _ _ _ _ (by omega), wr_ck _ _ _ _ (by omega), wr_k _ _ _ _ (by decide), wr_ck _ _ _ _ (by decide), wr_ck _ _ _ _ (by decide), wr_ck _ _ _ _ (by decide)]; exact h3
    · rw [wr_ck _ _ _ _ (by omega), wr_ck _ _ _ _ (by omega), wr_same]
    · rw [wr_ck _ _ _ _ (by decide), wr_ck _ _ _ _ (by decide), wr_same]
    · rw [A5, B33 i (by omega)]
      by_cases hx : i = k
      · rw [if_pos hx, if_pos hx]; exact (hk v (by omega)).1
      · rw [if_neg hx, if_neg hx]; exact (hk i (by omega)).1
    · rw [A6, B34 i (by omega)]
      by_cases hx : i = k
      · rw [if_pos hx, if_pos hx]; exact (hk v (by omega)).2
      · rw [if_neg hx, if_neg hx]; exact (hk i (by omega)).2
    · rw [A5, A5] at hij
      by_cases hx : i = k
      · by_cases hy : j = k
        · rw [hx, hy]
        · rw [if_pos hx, if_neg hy] at hij
          have := hd v j (by omega) (by omega) hij
          omega
      · by_cases hy : j = k
        · rw [if_neg hx, if_pos hy] at hij
          have := hd i v (by omega) (by omega) hij
          omega
        · rw [if_neg hx, if_neg hy] at hij
          exact hd i j (by omega) (by omega) hij
