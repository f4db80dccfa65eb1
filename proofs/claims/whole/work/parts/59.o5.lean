def RO (A B : Mem) (c : Nat) (e : Int32) (T : Nat) (md ev : Int32) : Prop :=
  A c 11 = B 63 (tn (5 * e + 3)) ∧ A c 12 = B 63 (tn (5 * e + 4)) ∧ zb (A c 9) = B 62 (tn (2 * e)) ∧ zb (A c 10) = B 62 (tn (2 * e + 1)) ∧ bitsLt (A c 2) 6 ∧ bitsLt (A c 8) 4 ∧
  (∃ f : Nat, f ≤ T ∧ A c 1 = nI f ∧ (md ≠ 2 → f = 0) ∧ (md = 2 → B 55 (tn e) = nI (min f 6) ∧ lowEq (A c 2) (B 54 (tn e)) (min f 6))) ∧
  ((B 52 (tn e) = 0 ∧ A c 0 = -1 ∧ zb (A c 4) = 0 ∧ zb (A c 5) = 0 ∧ B 57 (tn e) = 0 ∧ B 60 (tn e) = 0 ∧ B 62 (tn (2 * e)) = 0 ∧ B 62 (tn (2 * e + 1)) = 0) ∨
   (B 52 (tn e) = 1 ∧ md = 2 ∧ B 55 (tn e) = 6 ∧ A c 3 = B 56 (tn e) ∧ ∃ q : Nat, q < 16 ∧ B 53 (tn e) = nI q ∧ A c 0 = nI q ∧ (ev = 1 ↔ q % 2 = 1) ∧ RH A B c e q))
theorem od_step : ∀ m, m ≤ 6 → (if 6 ≤ nI m then 6 else nI m + 1 : Int32) = nI (min (m + 1) 6) := by decide +kernel
theorem pl_step : ∀ q, q < 16 → (nI q + 1) &&& (15 : Int32) = nI ((q + 1) % 16) ∧ (nI q + 1 - (nI q + 1) / 16 * 16 : Int32) = nI ((q + 1) % 16) := by decide +kernel
/-- what stands before the number is looked at -/
theorem front {A B : Mem} {c : Nat} {e o ev : Int32} {T f : Nat} (hT : T < 2000000) (hf : f ≤ T) (h1 : A c 1 = nI f) (h2 : bitsLt (A c 2) 6) (h8 : bitsLt (A c 8) 4) (h55 : B 55 (tn e) = nI (min f 6)) (h54 : lowEq (A c 2) (B 54 (tn e)) (min f 6)) (hoe : (ev = 1 ∧ o = 0) ∨ (ev = 0 ∧ o = 1)) (h47 : B 47 (tn e) = ev) :
    ∃ f' : Nat, f' ≤ T + 1 ∧ f ≤ f' ∧ tf1 c A (B 45 (tn e)) o c 1 = nI f' ∧ bitsLt (tf1 c A (B 45 (tn e)) o c 2) 6 ∧ bitsLt (tf1 c A (B 45 (tn e)) o c 8) 4 ∧ cm2 B e 55 (tn e) = nI (min f' 6) ∧ lowEq (tf1 c A (B 45 (tn e)) o c 2) (cm2 B e 54 (tn e)) (min f' 6) ∧
      (cmk B e = if o ≠ 0 ∧ 6 ≤ f' ∧ tf1 c A (B 45 (tn e)) o c 2 = 11 then 1 else 0) ∧ tf1 c A (B 45 (tn e)) o c 8 = (if o = 0 then ((A c 8 <<< ((1 : Int32) &&& 31)) ||| iu (B 45 (tn e)) 31) &&& (15 : Int32) else A c 8) ∧ (∀ k, k ∉ [1, 2, 8] → tf1 c A (B 45 (tn e)) o c k = A c k) := by
  have hF := iu_31_or (B 45 (tn e))
  rcases hoe with ⟨rfl, rfl⟩ | ⟨rfl, rfl⟩
  · have hne : ¬ B 47 (tn e) = 0 := by rw [h47]; decide
    have hA : tf1 c A (B 45 (tn e)) 0 = wr A c 8 (((A c 8 <<< ((1 : Int32) &&& 31)) ||| (iu (B 45 (tn e)) 31)) &&& (15 : Int32)) := by unfold tf1; rw [if_pos rfl]
    have hB : cm2 B e = cm1 B e := by unfold cm2; rw [if_neg hne]
    rw [hA, hB, cm1_c (c := 55) (by decide), cm1_c (c := 54) (by decide)]
    refine ⟨f, by omega, Nat.le_refl _, by rw [wr_k _ _ _ _ (by decide)]; exact h1, by rw [wr_k _ _ _ _ (by decide)]; exact h2, by rw [wr_same]; exact bl_mask b_15, h55, by rw [wr_k _ _ _ _ (by decide)]; exact h54, ?_, by rw [wr_same, if_pos rfl], fun k hk => ?_⟩
    · unfold cmk; rw [if_neg hne]; simp
    · simp only [List.mem_cons, List.not_mem_nil, or_false, not_or] at hk
      exact wr_k _ _ _ _ hk.2.2
  · have hA : tf1 c A (B 45 (tn e)) 1 = wr (wr A c 1 (A c 1 + 1)) c 2 (((A c 2 <<< ((1 : Int32) &&& 31)) ||| (iu (B 45 (tn e)) 31)) &&& (63 : Int32)) := by unfold tf1; rw [if_neg (by decide)]
    have e54 : cm2 B e 54 (tn e) = ((B 54 (tn e) <<< ((1 : Int32) &&& 31)) ||| iu (B 45 (tn e)) 31) &&& (63 : Int32) := by unfold cm2; rw [if_pos h47]; simp [wr_r]
    have e55 : cm2 B e 55 (tn e) = nI (min (f + 1) 6) := by
      unfold cm2
      rw [if_pos h47, wr_same, h55, od_step _ (by omega)]
      congr 1
      omega
    have hlow : lowEq (((A c 2 <<< ((1 : Int32) &&& 31)) ||| (iu (B 45 (tn e)) 31)) &&& (63 : Int32)) (((B 54 (tn e) <<< ((1 : Int32) &&& 31)) ||| iu (B 45 (tn e)) 31) &&& (63 : Int32)) (min (f + 1) 6) := by
      rcases Nat.lt_or_ge f 6 with h6 | h6
      · rw [show min f 6 = f by omega] at h54
        rw [show min (f + 1) 6 = f + 1 by omega]
        exact low_mask (by omega) (low_shift b_63 (by omega) hF h54 h6)
      · rw [show min f 6 = 6 by omega] at h54
        rw [show min (f + 1) 6 = 6 by omega]
        exact low_shift6 hF h54
    have hbl : bitsLt (((A c 2 <<< ((1 : Int32) &&& 31)) ||| (iu (B 45 (tn e)) 31)) &&& (63 : Int32)) 6 := bl_mask b_63
    rw [hA, e54, e55]
    refine ⟨f + 1, by omega, by omega, by rw [wr_k _ _ _ _ (by decide), wr_same, h1, nI_1], by rw [wr_same]; exact hbl, by rw [wr_k _ _ _ _ (by decide), wr_k _ _ _ _ (by decide)]; exact h8, rfl, by rw [wr_same]; exact hlow, ?_, by rw [wr_k _ _ _ _ (by decide), wr_k _ _ _ _ (by decide), if_neg (by decide)], fun k hk => ?_⟩
    · unfold cmk
      rw [if_pos h47, e55, e54, wr_same]
      by_cases h6 : 6 ≤ f + 1
      · rw [show min (f + 1) 6 = 6 by omega] at hlow ⊢
        rw [if_pos (show nI 6 = (6 : Int32) from rfl), ← lowEq_eq hlow hbl]
        by_cases h11 : ((A c 2 <<< ((1 : Int32) &&& 31)) ||| (iu (B 45 (tn e)) 31)) &&& (63 : Int32) = 11
        · rw [if_pos h11, if_pos ⟨by decide, h6, h11⟩]
        · rw [if_neg h11, if_neg (fun h9 => h11 h9.2.2)]
      · rw [if_neg (c := nI (min (f + 1) 6) = 6) (fun h9 => by have := nI_inj (b := 6) (by omega) (by omega) h9; omega), if_neg (fun h9 => h6 h9.2.1)]
    · simp only [List.mem_cons, List.not_mem_nil, or_false, not_or] at hk
      rw [wr_k _ _ _ _ hk.2.1, wr_k _ _ _ _ hk.1]
