/-! a symbol to be changed on its way -/
theorem RA_put {A B : Mem} {b : Nat} {e tm s : Int32} {j w : Nat} (he : e = 0 ∨ e = 1) (hj : j < 8) (hw : w ≤ 8) (h3 : zb (A (b + 4) 3) = B 35 (tn e)) (h2 : A (b + 4) 2 = nI w) (h32 : B 32 (tn e) = nI w)
    (hk : ∀ k, k < w → k ≠ j → A (b + 5) k = B 33 (ix8 e k) ∧ A (b + 6) k = B 34 (ix8 e k)) (hd : ∀ i k, i < w → k < w → i ≠ j → k ≠ j → A (b + 5) i = A (b + 5) k → i = k) (hn : ∀ i, i < w → i ≠ j → A (b + 5) i ≠ tm) :
    RA (wr (wr A (b + 5) j tm) (b + 6) j s) (wr (wr B 33 (ix8 e j) tm) 34 (ix8 e j) s) b e := by
  have A5 : ∀ i, wr (wr A (b + 5) j tm) (b + 6) j s (b + 5) i = if i = j then tm else A (b + 5) i := by
    intro i
    rw [wr_ck _ _ _ _ (by omega), wr_r]
    by_cases hi : i = j <;> simp [hi]
  have A6 : ∀ i, wr (wr A (b + 5) j tm) (b + 6) j s (b + 6) i = if i = j then s else A (b + 6) i := by
    intro i
    rw [wr_r, wr_ck _ _ _ _ (by omega)]
    by_cases hi : i = j <;> simp [hi]
  have B33 : ∀ i, i < 8 → wr (wr B 33 (ix8 e j) tm) 34 (ix8 e j) s 33 (ix8 e i) = if i = j then tm else B 33 (ix8 e i) := by
    intro i hi
    rw [wr_ck _ _ _ _ (by decide)]
    by_cases hx : i = j
    · subst hx; rw [wr_same, if_pos rfl]
    · rw [wr_k _ _ _ _ (fun h9 => hx (ix8_inj he hi (by omega) h9)), if_neg hx]
  have B34 : ∀ i, i < 8 → wr (wr B 33 (ix8 e j) tm) 34 (ix8 e j) s 34 (ix8 e i) = if i = j then s else B 34 (ix8 e i) := by
    intro i hi
    by_cases hx : i = j
    · subst hx; rw [wr_same, if_pos rfl]
    · rw [wr_k _ _ _ _ (fun h9 => hx (ix8_inj he hi (by omega) h9)), wr_ck _ _ _ _ (by decide), if_neg hx]
  refine ⟨?_, w, hw, ?_, ?_, fun i hi => ⟨?_, ?_⟩, fun i k hi hk9 hik => ?_⟩
  · rw [wr_ck _ _ _ _ (by omega), wr_ck _ _ _ _ (by omega), wr_ck _ _ _ _ (by decide), wr_ck _ _ _ _ (by decide)]; exact h3
  · rw [wr_ck _ _ _ _ (by omega), wr_ck _ _ _ _ (by omega)]; exact h2
  · rw [wr_ck _ _ _ _ (by decide), wr_ck _ _ _ _ (by decide)]; exact h32
  · rw [A5, B33 i (by omega)]
    by_cases hx : i = j
    · rw [if_pos hx, if_pos hx]
    · rw [if_neg hx, if_neg hx]; exact (hk i hi hx).1
  · rw [A6, B34 i (by omega)]
    by_cases hx : i = j
    · rw [if_pos hx, if_pos hx]
    · rw [if_neg hx, if_neg hx]; exact (hk i hi hx).2
  · rw [A5, A5] at hik
    by_cases hx : i = j
    · by_cases hy : k = j
      · rw [hx, hy]
      · rw [if_pos hx, if_neg hy] at hik
        exact absurd hik.symm (hn k hk9 hy)
    · by_cases hy : k = j
      · rw [if_neg hx, if_pos hy] at hik
        exact absurd hik (hn i hi hx)
      · rw [if_neg hx, if_neg hy] at hik
        exact hd i k hi hk9 hx hy hik
theorem RA_change {A B : Mem} {b : Nat} {e tm s : Int32} (he : e = 0 ∨ e = 1) (h : RA A B b e) :
    (∃ j : Nat, j < 8 ∧ sp_M_said B e tm = nI j ∧ (sp_A_change (b + 4) A tm s).1 = 1 ∧ (sp_A_change (b + 4) A tm s).2 (b + 4) 2 = B 32 (tn e) ∧ RA (sp_A_change (b + 4) A tm s).2 (wr (wr B 33 (ix8 e j) tm) 34 (ix8 e j) s) b e) ∨
    (sp_M_said B e tm = -1 ∧ B 32 (tn e) = 8 ∧ sp_A_change (b + 4) A tm s = (0, A)) ∨
    (∃ w : Nat, w < 8 ∧ B 32 (tn e) = nI w ∧ sp_M_said B e tm = -1 ∧ ¬ B 32 (tn e) = 8 ∧ (sp_A_change (b + 4) A tm s).1 = 1 ∧ (sp_A_change (b + 4) A tm s).2 (b + 4) 2 = B 32 (tn e) + 1 ∧ RA (sp_A_change (b + 4) A tm s).2 (wr (wr (wr B 32 (tn e) (B 32 (tn e) + 1)) 33 (ix8 e w) tm) 34 (ix8 e w) s) b e) := by
  obtain ⟨h3, w, hw, h2, h32, hk, hd⟩ := h
  rcases RA_find (t := tm) hw h2 h32 hk hd with ⟨p1, p2, p3⟩ | ⟨j, hjw, p1, p2, p3⟩
  · by_cases c8 : w = 8
    · subst c8
      refine Or.inr (Or.inl ⟨p2, h32, ?_⟩)
      unfold sp_A_change
      rw [p1, if_neg (by decide)]
    · refine Or.inr (Or.inr ⟨w, by omega, h32, p2, ?_, ?_⟩)
      · rw [h32]; exact fun h9 => c8 (nI_inj (b := 8) (by omega) (by omega) h9)
      · have hc : sp_A_change (b + 4) A tm s = (1, wr (wr (wr A (b + 4) 2 (nI (w + 1))) (b + 5) w tm) (b + 6) w s) := by
          unfold sp_A_change
          rw [p1, h2, if_pos (show nI w < 8 from nI_lt (b := 8) (show w < 8 by omega) (by omega)), if_pos rfl, nI_1, tn_nI (show w < 2 ^ 31 by omega)]
        rw [hc]
        refine ⟨rfl, ?_, ?_⟩
        · show wr (wr (wr A (b + 4) 2 (nI (w + 1))) (b + 5) w tm) (b + 6) w s (b + 4) 2 = _
          rw [wr_ck _ _ _ _ (by omega), wr_ck _ _ _ _ (by omega), wr_same, h32, nI_1]
        · show RA (wr (wr (wr A (b + 4) 2 (nI (w + 1))) (b + 5) w tm) (b + 6) w s) _ b e
          rw [h32, nI_1]
          refine RA_put (w := w + 1) he (by omega) (by omega) ?_ (wr_same _ _ _ _) (wr_same _ _ _ _) (fun k hk9 hn => ?_) (fun i k hi hk9 hn1 hn2 => ?_) (fun i hi hn => ?_)
          · rw [wr_k _ _ _ _ (by decide), wr_ck _ _ _ _ (by decide)]; exact h3
          · rw [wr_ck _ _ _ _ (by first | decide | omega), wr_ck _ _ _ _ (by first | decide | omega), wr_ck _ _ _ _ (by first | decide | omega), wr_ck _ _ _ _ (by first | decide | omega)]; exact hk k (by omega)
          · rw [wr_ck _ _ _ _ (by omega), wr_ck _ _ _ _ (by omega)]; exact hd i k (by omega) (by omega)
          · rw [wr_ck _ _ _ _ (by omega)]; exact p3 i (by omega)
  · refine Or.inl ⟨j, by omega, p2, ?_⟩
    have hc : sp_A_change (b + 4) A tm s = (1, wr (wr A (b + 5) j tm) (b + 6) j s) := by
      unfold sp_A_change
      rw [p1, h2, if_pos (show nI j < 8 from nI_lt (b := 8) (show j < 8 by omega) (by omega)), if_neg (fun h9 => by have := nI_inj (by omega) (by omega) h9; omega), tn_nI (show j < 2 ^ 31 by omega)]
    rw [hc]
    refine ⟨rfl, ?_, ?_⟩
    · show wr (wr A (b + 5) j tm) (b + 6) j s (b + 4) 2 = _
      rw [wr_ck _ _ _ _ (by omega), wr_ck _ _ _ _ (by omega), h2, h32]
    · exact RA_put he (by omega) hw h3 h2 h32 (fun k hk9 _ => hk k hk9) (fun i k hi hk9 _ _ => hd i k hi hk9) (fun i hi hn h9 => hn (hd i j hi hjw (h9.trans p3.symm)))
def dd (G1 B0 : Mem) (a k s : Int32) : Int32 × Mem :=
  if (if 0 ≤ sp_M_said B0 a (G1 21 1 + k) then 0 else (if G1 32 (tn a) = 8 then 2 else 0) : Int32) ≤ 0 then (if 0 ≤ sp_M_said B0 a (G1 21 1 + k) then (G1 32 (tn a), wr (wr (wr B0 21 0 (if 0 ≤ sp_M_said B0 a (G1 21 1 + k) then 0 else (if G1 32 (tn a) = 8 then 2 else 0))) 33 (tn (8 * a + sp_M_said B0 a (G1 21 1 + k))) (G1 21 1 + k)) 34 (tn (8 * a + sp_M_said B0 a (G1 21 1 + k))) s)
    else (G1 32 (tn a) + 1, wr (wr (wr (wr B0 21 0 (if 0 ≤ sp_M_said B0 a (G1 21 1 + k) then 0 else (if G1 32 (tn a) = 8 then 2 else 0))) 32 (tn a) (G1 32 (tn a) + 1)) 33 (tn (8 * a + G1 32 (tn a))) (G1 21 1 + k)) 34 (tn (8 * a + G1 32 (tn a))) s))
  else (0, wr B0 21 0 (if 0 ≤ sp_M_said B0 a (G1 21 1 + k) then 0 else (if G1 32 (tn a) = 8 then 2 else 0)))
theorem dd_eq {a k s : Int32} (G1 : Mem) (he : a = 0 ∨ a = 1) (h1 : 1 ≤ k) (h2 : k ≤ 1000) (h3 : -1 ≤ s) (h4 : s ≤ 1) : sp_M_disturb G1 a k s = dd G1 (wr G1 21 0 0) a k s := by
  unfold sp_M_disturb
  rw [ie_ok he, wi_ok h1 h2, wi_ok h3 h4]
  rfl
