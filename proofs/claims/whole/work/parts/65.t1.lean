theorem RR_congr {A A' B B' : Mem} {c : Nat} {e : Int32} {T : Nat} (hA : ∀ k, A' c k = A c k) (hB : ∀ cc k, cc ∈ [43, 44, 45, 46, 47, 48, 49, 50, 51] → B' cc k = B cc k) (h3 : B' 63 (tn (5 * e)) = B 63 (tn (5 * e))) (h4 : B' 63 (tn (5 * e + 2)) = B 63 (tn (5 * e + 2))) (h : RR A B c e T) : RR A' B' c e T := by
  have b43 : ∀ k, B' 43 k = B 43 k := fun k => hB 43 k (by decide)
  have b44 : ∀ k, B' 44 k = B 44 k := fun k => hB 44 k (by decide)
  have b45 : ∀ k, B' 45 k = B 45 k := fun k => hB 45 k (by decide)
  have b46 : ∀ k, B' 46 k = B 46 k := fun k => hB 46 k (by decide)
  have b47 : ∀ k, B' 47 k = B 47 k := fun k => hB 47 k (by decide)
  have b48 : ∀ k, B' 48 k = B 48 k := fun k => hB 48 k (by decide)
  have b49 : ∀ k, B' 49 k = B 49 k := fun k => hB 49 k (by decide)
  have b50 : ∀ k, B' 50 k = B 50 k := fun k => hB 50 k (by decide)
  have b51 : ∀ k, B' 51 k = B 51 k := fun k => hB 51 k (by decide)
  unfold RR at *
  simp only [hA, b43, b44, b45, b46, b47, b48, b49, b50, b51, h3, h4]
  exact h
theorem RR_mono {A B : Mem} {c : Nat} {e : Int32} {T T' : Nat} (hT : T ≤ T') (h : RR A B c e T) : RR A B c e T' := by
  obtain ⟨x1, xm, x2, x6, x8, x9, ⟨xf, xhf, x7⟩, x47, ⟨xn, xhn, xn3⟩, x4⟩ := h
  exact ⟨x1, xm, x2, x6, x8, x9, ⟨xf, by omega, x7⟩, x47, ⟨xn, by omega, xn3⟩, x4⟩
theorem RD_congr {A A' B B' : Mem} {b : Nat} {e : Int32} {T : Nat} (hA : ∀ k, A' (b + 7) k = A (b + 7) k) (hB : ∀ cc k, cc ∈ [36, 37, 38, 39, 40, 41, 42] → B' cc k = B cc k) (h3 : B' 63 (tn (5 * e + 1)) = B 63 (tn (5 * e + 1))) (h : RD A B b e T) : RD A' B' b e T := by
  have b36 : ∀ k, B' 36 k = B 36 k := fun k => hB 36 k (by decide)
  have b37 : ∀ k, B' 37 k = B 37 k := fun k => hB 37 k (by decide)
  have b38 : ∀ k, B' 38 k = B 38 k := fun k => hB 38 k (by decide)
  have b39 : ∀ k, B' 39 k = B 39 k := fun k => hB 39 k (by decide)
  have b40 : ∀ k, B' 40 k = B 40 k := fun k => hB 40 k (by decide)
  have b41 : ∀ k, B' 41 k = B 41 k := fun k => hB 41 k (by decide)
  have b42 : ∀ k, B' 42 k = B 42 k := fun k => hB 42 k (by decide)
  unfold RD at *
  simp only [hA, b36, b37, b38, b39, b40, b41, b42, h3]
  exact h
theorem RD_mono {A B : Mem} {b : Nat} {e : Int32} {T T' : Nat} (hT : T ≤ T') (h : RD A B b e T) : RD A B b e T' := by
  obtain ⟨a1, a2, a3, a4, ⟨z, hz, hr⟩, a6⟩ := h
  exact ⟨a1, a2, a3, a4, ⟨z, by omega, hr⟩, a6⟩
/-- decoder, receiver and rounds of an end -/
def RT (A B : Mem) (b : Nat) (e : Int32) (T : Nat) : Prop := RD A B b e T ∧ RR A B (b + 8) e T ∧ RO A B (b + 9) e T (B 43 (tn e)) (B 47 (tn e))
def cT (b : Nat) (A : Mem) (s : Int32) : Mem := if (sp_D_bitBehind (b + 7) A s).1 = -1 then (sp_D_bitBehind (b + 7) A s).2 else sp_R_takeBit (b + 8) (sp_D_bitBehind (b + 7) A s).2 (sp_D_bitBehind (b + 7) A s).1
theorem cT_c {b : Nat} {A : Mem} {s : Int32} {x : Nat} (h : x ∉ ([b + 7, b + 8, b + 9] : List Nat)) : cT b A s x = A x := by
  simp only [List.mem_cons, List.not_mem_nil, or_false, not_or] at h
  unfold cT
  split
  · rw [fr_D_bitBehind (by simp; omega)]
  · rw [fr_R_takeBit (by simp; omega), fr_D_bitBehind (by simp; omega)]
theorem RT_mono {A B : Mem} {b : Nat} {e : Int32} {T T' : Nat} (hT : T ≤ T') (h : RT A B b e T) : RT A B b e T' := ⟨RD_mono hT h.1, RR_mono hT h.2.1, RO_mono hT h.2.2⟩
theorem RT_congr {A A' B B' : Mem} {b : Nat} {e : Int32} {T : Nat} (hA : ∀ x k, x ∈ [b + 7, b + 8, b + 9] → A' x k = A x k) (hB : ∀ cc k, 36 ≤ cc → own e cc k = true → B' cc k = B cc k) (he : e = 0 ∨ e = 1) (h : RT A B b e T) : RT A' B' b e T := by
  have a7 : ∀ k, A' (b + 7) k = A (b + 7) k := fun k => hA _ k (by simp)
  have a8 : ∀ k, A' (b + 8) k = A (b + 8) k := fun k => hA _ k (by simp)
  have a9 : ∀ k, A' (b + 9) k = A (b + 9) k := fun k => hA _ k (by simp)
  have b36 : B' 36 (tn e) = B 36 (tn e) := hB 36 _ (by decide) (own_36 he)
  have b37 : B' 37 (tn e) = B 37 (tn e) := hB 37 _ (by decide) (own_37 he)
  have b40 : B' 40 (tn e) = B 40 (tn e) := hB 40 _ (by decide) (own_40 he)
  have b41 : B' 41 (tn e) = B 41 (tn e) := hB 41 _ (by decide) (own_41 he)
  have b42 : B' 42 (tn e) = B 42 (tn e) := hB 42 _ (by decide) (own_42 he)
  have b43 : B' 43 (tn e) = B 43 (tn e) := hB 43 _ (by decide) (own_43 he)
  have b44 : B' 44 (tn e) = B 44 (tn e) := hB 44 _ (by decide) (own_44 he)
  have b45 : B' 45 (tn e) = B 45 (tn e) := hB 45 _ (by decide) (own_45 he)
  have b46 : B' 46 (tn e) = B 46 (tn e) := hB 46 _ (by decide) (own_46 he)
  have b47 : B' 47 (tn e) = B 47 (tn e) := hB 47 _ (by decide) (own_47 he)
  have b48 : B' 48 (tn e) = B 48 (tn e) := hB 48 _ (by decide) (own_48 he)
  have b49 : B' 49 (tn e) = B 49 (tn e) := hB 49 _ (by decide) (own_49 he)
  have b50 : B' 50 (tn e) = B 50 (tn e) := hB 50 _ (by decide) (own_50 he)
  have b51 : B' 51 (tn e) = B 51 (tn e) := hB 51 _ (by decide) (own_51 he)
  have b52 : B' 52 (tn e) = B 52 (tn e) := hB 52 _ (by decide) (own_52 he)
  have b53 : B' 53 (tn e) = B 53 (tn e) := hB 53 _ (by decide) (own_53 he)
  have b54 : B' 54 (tn e) = B 54 (tn e) := hB 54 _ (by decide) (own_54 he)
  have b55 : B' 55 (tn e) = B 55 (tn e) := hB 55 _ (by decide) (own_55 he)
  have b56 : B' 56 (tn e) = B 56 (tn e) := hB 56 _ (by decide) (own_56 he)
  have b57 : B' 57 (tn e) = B 57 (tn e) := hB 57 _ (by decide) (own_57 he)
  have b58 : B' 58 (tn e) = B 58 (tn e) := hB 58 _ (by decide) (own_58 he)
  have b59 : B' 59 (tn e) = B 59 (tn e) := hB 59 _ (by decide) (own_59 he)
  have b60 : B' 60 (tn e) = B 60 (tn e) := hB 60 _ (by decide) (own_60 he)
  have b61 : B' 61 (tn e) = B 61 (tn e) := hB 61 _ (by decide) (own_61 he)
  have b38_0 : B' 38 (tn (3 * e)) = B 38 (tn (3 * e)) := hB 38 _ (by decide) (own_38_0 he)
  have b38_1 : B' 38 (tn (3 * e + 1)) = B 38 (tn (3 * e + 1)) := hB 38 _ (by decide) (own_38_1 he)
  have b38_2 : B' 38 (tn (3 * e + 2)) = B 38 (tn (3 * e + 2)) := hB 38 _ (by decide) (own_38_2 he)
  have b39_0 : B' 39 (tn (3 * e)) = B 39 (tn (3 * e)) := hB 39 _ (by decide) (own_39_0 he)
  have b39_1 : B' 39 (tn (3 * e + 1)) = B 39 (tn (3 * e + 1)) := hB 39 _ (by decide) (own_39_1 he)
  have b39_2 : B' 39 (tn (3 * e + 2)) = B 39 (tn (3 * e + 2)) := hB 39 _ (by decide) (own_39_2 he)
  have b62_0 : B' 62 (tn (2 * e)) = B 62 (tn (2 * e)) := hB 62 _ (by decide) (own_62_0 he)
  have b62_1 : B' 62 (tn (2 * e + 1)) = B 62 (tn (2 * e + 1)) := hB 62 _ (by decide) (own_62_1 he)
  have b63_0 : B' 63 (tn (5 * e)) = B 63 (tn (5 * e)) := hB 63 _ (by decide) (by rcases he with rfl | rfl <;> rfl)
  have b63_1 : B' 63 (tn (5 * e + 1)) = B 63 (tn (5 * e + 1)) := hB 63 _ (by decide) (own_63_1 he)
  have b63_2 : B' 63 (tn (5 * e + 2)) = B 63 (tn (5 * e + 2)) := hB 63 _ (by decide) (own_63_2 he)
  have b63_3 : B' 63 (tn (5 * e + 3)) = B 63 (tn (5 * e + 3)) := hB 63 _ (by decide) (own_63_3 he)
  have b63_4 : B' 63 (tn (5 * e + 4)) = B 63 (tn (5 * e + 4)) := hB 63 _ (by decide) (own_63_4 he)
  unfold RT RD RR RO RH at *
  simp only [a7, a8, a9, b36, b37, b40, b41, b42, b43, b44, b45, b46, b47, b48, b49, b50, b51, b52, b53, b54, b55, b56, b57, b58, b59, b60, b61, b38_0, b38_1, b38_2, b39_0, b39_1, b39_2, b62_0, b62_1, b63_0, b63_1, b63_2, b63_3, b63_4]
  exact h
theorem T_step {A B : Mem} {b : Nat} {e s : Int32} {T : Nat} (he : e = 0 ∨ e = 1) (hT : T < 2000000) (h : RT A B b e T) : RT (cT b A s) (sp_M_take B e s) b e (T + 1) := by
  obtain ⟨hD, hR, hO⟩ := h
  obtain ⟨d1, d2⟩ := D_step (s := s) he hT hD
  obtain ⟨-, -, -, -, -, -, -, -, -, -, -, -, y63, yc⟩ := tkY_rd B e s he
  have n1 : ∀ j : Int32, j = 0 ∨ j = 2 ∨ j = 3 ∨ j = 4 → tn (5 * e + j) ≠ tn (5 * e + 1) := by rcases he with rfl | rfl <;> rintro j (rfl | rfl | rfl | rfl) <;> decide
  have z50 : tn (5 * e + 0) = tn (5 * e) := by rcases he with rfl | rfl <;> rfl
  have hR1 : RR (sp_D_bitBehind (b + 7) A s).2 (tkY B e s) (b + 8) e T := RR_congr (fun k => by rw [fr_D_bitBehind (by simp)]) (fun cc k hc => yc cc k (by simp only [List.mem_cons, List.not_mem_nil, or_false] at hc ⊢; omega)) (y63 _ (by have := n1 0 (by simp); rw [z50] at this; exact this)) (y63 _ (n1 2 (by simp))) hR
  have hO1 : RO (sp_D_bitBehind (b + 7) A s).2 (tkY B e s) (b + 9) e T (tkY B e s 43 (tn e)) (tkY B e s 47 (tn e)) := by
    rw [yc 43 _ (by decide), yc 47 _ (by decide)]
    exact RO_congr (fun k => by rw [fr_D_bitBehind (by simp)]) (fun cc k hc => yc cc k (by simp only [List.mem_cons, List.not_mem_nil, or_false] at hc ⊢; omega)) (y63 _ (n1 3 (by simp))) (y63 _ (n1 4 (by simp))) hO
  rw [take_eq B e s he]
  unfold cT
  rcases d2 with ⟨c4, hb, hb01⟩ | ⟨c4, hb⟩
  · rw [if_pos c4, hb, if_neg (by rcases hb01 with h9 | h9 <;> rw [h9] <;> decide)]
    obtain ⟨q1, q2, q3⟩ := R_step (a := tkb B e s) he hT hR1 hO1
    refine ⟨RD_congr (fun k => by rw [fr_R_takeBit (by simp)]) (fun cc k hc => by rw [fr_M_make (by simp only [List.mem_cons, List.not_mem_nil, or_false] at hc ⊢; omega)]) q3 d1, q1, q2⟩
  · rw [if_neg c4, if_pos hb]
    exact ⟨d1, RR_mono (by omega) hR1, RO_mono (by omega) hO1⟩
