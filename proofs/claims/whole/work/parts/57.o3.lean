def lowEq (x y : Int32) (n : Nat) : Prop := (∀ i, i < n → bt x i = bt y i) ∧ ∀ i, n ≤ i → bt y i = false
def bitsLt (x : Int32) (n : Nat) : Prop := ∀ i, n ≤ i → bt x i = false
theorem lowEq_eq {x y : Int32} {n : Nat} (h : lowEq x y n) (hx : bitsLt x n) : x = y := by
  apply b_ext
  intro i _
  rcases Nat.lt_or_ge i n with h1 | h1
  · exact h.1 i h1
  · rw [hx i h1, h.2 i h1]
theorem b_63 (i : Nat) : bt 63 i = decide (i < 6) := by
  rcases Nat.lt_or_ge i 32 with h | h
  · exact (by decide +kernel : ∀ i, i < 32 → bt 63 i = decide (i < 6)) i h
  · rw [b_big h, decide_eq_false (by omega)]
theorem b_15 (i : Nat) : bt 15 i = decide (i < 4) := by
  rcases Nat.lt_or_ge i 32 with h | h
  · exact (by decide +kernel : ∀ i, i < 32 → bt 15 i = decide (i < 4)) i h
  · rw [b_big h, decide_eq_false (by omega)]
theorem b_shl1 (x : Int32) {i : Nat} (hi : i < 32) : bt (x <<< ((1 : Int32) &&& 31)) i = (decide (1 ≤ i) && bt x (i - 1)) := b_shl 1 (by omega) x hi
/-- one more bit below, in both registers; the class's is cut to N bits -/
theorem low_shift {x y f m : Int32} {n N : Nat} (hm : ∀ i, bt m i = decide (i < N)) (hN : N < 32) (hf : f = 0 ∨ f = 1) (h : lowEq x y n) (hn : n < N) : lowEq (((x <<< ((1 : Int32) &&& 31)) ||| f) &&& m) ((y <<< ((1 : Int32) &&& 31)) ||| f) (n + 1) := by
  have hf2 : ∀ i, 1 ≤ i → bt f i = false := by
    intro i hi
    rcases hf with rfl | rfl
    · exact b_0 i
    · rw [b_1]; simp; omega
  refine ⟨fun i hi => ?_, fun i hi => ?_⟩
  · rw [b_and, b_or, b_or, b_shl1 x (by omega), b_shl1 y (by omega), hm, decide_eq_true (show i < N by omega), Bool.and_true]
    rcases Nat.eq_zero_or_pos i with rfl | h1
    · simp
    · rw [h.1 (i - 1) (by omega)]
  · rcases Nat.lt_or_ge i 32 with h3 | h3
    · rw [b_or, b_shl1 y h3, hf2 i (by omega), h.2 (i - 1) (by omega)]; simp
    · exact b_big h3
theorem low_shift6 {x y f : Int32} (hf : f = 0 ∨ f = 1) (h : lowEq x y 6) : lowEq (((x <<< ((1 : Int32) &&& 31)) ||| f) &&& 63) (((y <<< ((1 : Int32) &&& 31)) ||| f) &&& 63) 6 := by
  refine ⟨fun i hi => ?_, fun i hi => ?_⟩
  · rw [b_and, b_or, b_and, b_or, b_shl1 x (by omega), b_shl1 y (by omega)]
    rcases Nat.eq_zero_or_pos i with rfl | h1
    · simp
    · rw [h.1 (i - 1) (by omega)]
  · rw [b_and, b_63, decide_eq_false (by omega), Bool.and_false]
theorem low_mask {x y : Int32} {n : Nat} (hn : n ≤ 6) (h : lowEq x y n) : lowEq x (y &&& 63) n := by
  refine ⟨fun i hi => ?_, fun i hi => ?_⟩
  · rw [b_and, b_63, decide_eq_true (show i < 6 by omega), Bool.and_true]; exact h.1 i hi
  · rw [b_and, h.2 i hi]; simp
theorem bl_mask {x m : Int32} {N : Nat} (hm : ∀ i, bt m i = decide (i < N)) : bitsLt (x &&& m) N := by
  intro i hi
  rw [b_and, hm, decide_eq_false (by omega), Bool.and_false]
/-- the end of a half, in the class -/
theorem eh_rd (c : Nat) (A : Mem) : sp_O_endHalf c A c 4 = 1 ∧ sp_O_endHalf c A c 5 = zb (A c 4) ∧ sp_O_endHalf c A c 6 = 0 ∧ sp_O_endHalf c A c 7 = A c 6 ∧ sp_O_endHalf c A c 0 = A c 0 ∧ sp_O_endHalf c A c 1 = A c 1 ∧ sp_O_endHalf c A c 2 = A c 2 ∧ sp_O_endHalf c A c 3 = A c 3 ∧ sp_O_endHalf c A c 8 = A c 8 ∧ sp_O_endHalf c A c 12 = A c 12 ∧
    sp_O_endHalf c A c 11 = inc (A c 11) (zb (A c 5) ≠ 0 ∧ ¬ A c 8 = A c 7) ∧ sp_O_endHalf c A c 9 = (if zb (A c 5) ≠ 0 ∧ A c 0 = 15 then (if A c 8 = A c 7 then 0 else 1) else A c 9) ∧ sp_O_endHalf c A c 10 = (if zb (A c 5) ≠ 0 ∧ ¬ A c 0 = 15 then (if A c 8 = A c 7 then 0 else 1) else A c 10) := by
  unfold sp_O_endHalf sp_O_judgeHalfBefore inc
  by_cases h1 : zb (A c 5) = 0
  · simp [h1, wr_r]
  · by_cases h2 : A c 8 = A c 7 <;> by_cases h3 : A c 0 = 15 <;> simp [h1, h2, h3, wr_r]
theorem tf4_rd (c : Nat) (A : Mem) {q : Nat} (hq : q < 16) (h0 : A c 0 = nI q) : tf4 c A = if q % 8 = 7 then sp_O_endHalf c A else A := by
  unfold tf4
  rw [h0]
  have h7 := (m8_0 q hq).2.2.2.2.2.1
  have h15 := (m8_0 q hq).2.2.1
  by_cases h : q % 8 = 7
  · rw [if_pos h, if_pos]
    have : q = 7 ∨ q = 15 := by omega
    exact this.imp h7.mpr h15.mpr
  · rw [if_neg h, if_neg]
    rintro (h9 | h9)
    · exact h (by rw [h7.mp h9])
    · exact h (by rw [h15.mp h9])
def RH (A B : Mem) (c : Nat) (e : Int32) (q : Nat) : Prop :=
  (B 57 (tn e) = 0 ∨ B 57 (tn e) = 1) ∧ (B 60 (tn e) = 0 ∨ (B 60 (tn e) = 1 ∧ B 57 (tn e) = 1)) ∧
  (q % 8 ≠ 7 → zb (A c 4) = B 57 (tn e) ∧ zb (A c 5) = B 60 (tn e) ∧ (B 57 (tn e) = 1 → A c 6 = B 58 (tn e))) ∧
  (q % 8 = 7 → zb (A c 4) = 1 ∧ zb (A c 5) = B 57 (tn e) ∧ B 60 (tn e) = B 57 (tn e) ∧ A c 6 = 0) ∧
  (B 60 (tn e) = 1 → A c 7 = B 61 (tn e)) ∧ (B 57 (tn e) = 1 → lowEq (A c 8) (B 59 (tn e)) (q % 8 / 2 + 1))
