/-! the decoder -/
def RD (A B : Mem) (b : Nat) (e : Int32) (T : Nat) : Prop :=
  A (b + 7) 0 = B 37 (tn e) ∧ A (b + 7) 1 = B 40 (tn e) ∧ A (b + 7) 2 = B 41 (tn e) ∧ A (b + 7) 6 = B 63 (tn (5 * e + 1)) ∧
  (∃ z : Nat, z ≤ T ∧ A (b + 7) 3 = nI z ∧ (B 40 (tn e) = 0 → B 42 (tn e) = 0 ∧ B 38 (tn (3 * e)) = 0 ∧ B 38 (tn (3 * e + 1)) = 0 ∧ B 38 (tn (3 * e + 2)) = 0) ∧
    (B 40 (tn e) ≠ 0 → B 42 (tn e) = nI (z % 4) ∧ (B 38 (tn (3 * e)) = 0 ↔ 1 ≤ z) ∧ (1 ≤ z → (B 38 (tn (3 * e + 1)) = 0 ↔ 2 ≤ z)))) ∧
  (∃ u : Nat, u < 16 ∧ A (b + 7) 4 = nI u ∧ u % 2 = (if B 38 (tn (3 * e)) ≠ 0 ∧ B 39 (tn (3 * e)) = 0 then 1 else 0) ∧ u / 2 % 2 = (if B 38 (tn (3 * e + 1)) ≠ 0 ∧ B 39 (tn (3 * e + 1)) = 0 then 1 else 0) ∧ u / 4 % 2 = (if B 38 (tn (3 * e + 2)) ≠ 0 ∧ B 39 (tn (3 * e + 2)) = 0 then 1 else 0)) ∧
  (B 39 (tn (3 * e)) = 0 ∨ (B 39 (tn (3 * e)) = 1 ∧ B 38 (tn (3 * e + 1)) = 0 ∧ B 38 (tn (3 * e + 2)) = 0)) ∧ (B 39 (tn (3 * e + 1)) = 0 ∨ (B 39 (tn (3 * e + 1)) = 1 ∧ B 38 (tn (3 * e + 2)) = 0)) ∧ (B 39 (tn (3 * e + 2)) = 0 ∨ B 39 (tn (3 * e + 2)) = 1) ∧
  (∃ w : Nat, w ≤ 4 ∧ B 36 (tn e) = nI w ∧ A (b + 7) 5 = nI (min w 3))
/-- a shift register of four bits -/
theorem sh4 : ∀ u, u < 16 → (nI u <<< ((1 : Int32) &&& 31)) &&& (15 : Int32) = nI (2 * u % 16) ∧ ((nI u <<< ((1 : Int32) &&& 31)) ||| (1 : Int32)) &&& (15 : Int32) = nI ((2 * u + 1) % 16) ∧ (nI u >>> ((3 : Int32) &&& 31)) &&& (1 : Int32) = nI (u / 8) := by decide +kernel
theorem and3 (z : Nat) : (nI z) &&& (3 : Int32) = nI (z % 4) := pk_and (nI z) 2 (by decide) |>.trans (by
  congr 1
  show (BitVec.ofNat 32 z).toNat % 4 = z % 4
  simp only [BitVec.toNat_ofNat]
  omega)
theorem mod4 : ∀ r, r < 5 → (nI r - nI r / 4 * 4 : Int32) = nI (r % 4) := by decide +kernel
/-- what the class's decoder does with one symbol -/
theorem eq_or_ne (x y : Int32) : x = y ∨ x ≠ y := by by_cases h : x = y <;> simp [h]
theorem D_rd (A : Mem) (c : Nat) (s : Int32) : ∃ A1 : Mem, ((sp_D_bitBehind c A s) = (if 3 ≤ A c 5 then ((A1 c 4 >>> ((3 : Int32) &&& 31)) &&& (1 : Int32), A1) else (-1, wr A1 c 5 (A c 5 + 1)))) ∧ A1 c 0 = s ∧ A1 c 5 = A c 5 ∧
    A1 c 1 = (if s = 0 then A c 1 else s) ∧ A1 c 3 = (if s = 0 then A c 3 + 1 else 0) ∧
    A1 c 2 = (if s ≠ 0 ∧ s = A c 1 ∧ ¬ A c 3 < 2 then s else A c 2) ∧
    A1 c 4 = (if s = 0 then (A c 4 <<< ((1 : Int32) &&& 31)) &&& (15 : Int32) else if s = A c 1 ∧ ¬ A c 3 < 2 then 0 else ((A c 4 <<< ((1 : Int32) &&& 31)) ||| (1 : Int32)) &&& (15 : Int32)) ∧
    A1 c 6 = inc (A c 6) ((s = 0 ∧ A c 1 ≠ 0 ∧ (A c 3 + 1) &&& (3 : Int32) = 0) ∨ (s ≠ 0 ∧ s = A c 1 ∧ (A c 3 < 2 ∨ s = A c 2))) := by
  by_cases h0 : s = 0
  · refine ⟨sp_D_takeZero c (wr A c 0 s), ?_⟩
    unfold sp_D_bitBehind sp_D_takeZero inc
    by_cases h1 : A c 1 = 0 <;> by_cases h2 : (A c 3 + 1) &&& (3 : Int32) = 0 <;> simp [h0, h1, h2, wr_r]
  · refine ⟨sp_D_takePulse c (wr A c 0 s) s, ?_⟩
    unfold sp_D_bitBehind sp_D_takePulse sp_D_takeV inc
    rcases eq_or_ne (A c 1) s with h1 | h1
    · rcases eq_or_ne (A c 2) s with h3 | h3
      · by_cases h2 : A c 3 < 2 <;> simp [h0, h1, h2, h3, wr_r]
      · have h4 := h3.symm
        by_cases h2 : A c 3 < 2 <;> simp [h0, h1, h2, h3, h4, wr_r]
    · have h5 := h1.symm
      by_cases h2 : A c 3 < 2 <;> simp [h0, h1, h5, h2, wr_r]
theorem nI_inj {a b : Nat} (ha : a < 2 ^ 31) (hb : b < 2 ^ 31) (h : nI a = nI b) : a = b := (nI_eq ha hb).mp h
theorem cm_step : ∀ w, w ≤ 4 → (if 4 ≤ nI w then 4 else nI w + 1 : Int32) = nI (min (w + 1) 4) ∧ ((3 : Int32) ≤ nI (min w 3) ↔ 3 ≤ w) ∧ (w < 3 → nI (min w 3) + 1 = nI (min (w + 1) 3)) := by decide +kernel
set_option maxHeartbeats 2000000 in
/-- the decoder's part, but for the first symbols -/
theorem D_core {A1 B : Mem} {c : Nat} {e s : Int32} {T z : Nat} (he : e = 0 ∨ e = 1) (hT : T < 2000000) (hz : z ≤ T)
    (hp0 : B 40 (tn e) = 0 → B 42 (tn e) = 0 ∧ B 38 (tn (3 * e)) = 0 ∧ B 38 (tn (3 * e + 1)) = 0 ∧ B 38 (tn (3 * e + 2)) = 0) (hp1 : B 40 (tn e) ≠ 0 → B 42 (tn e) = nI (z % 4) ∧ (B 38 (tn (3 * e)) = 0 ↔ 1 ≤ z) ∧ (1 ≤ z → (B 38 (tn (3 * e + 1)) = 0 ↔ 2 ≤ z)))
    (q3 : A1 c 3 = (if s = 0 then nI z + 1 else 0)) (q2 : A1 c 2 = (if s ≠ 0 ∧ s = B 40 (tn e) ∧ ¬ nI z < 2 then s else B 41 (tn e))) (q6 : A1 c 6 = inc (B 63 (tn (5 * e + 1))) ((s = 0 ∧ B 40 (tn e) ≠ 0 ∧ (nI z + 1) &&& (3 : Int32) = 0) ∨ (s ≠ 0 ∧ s = B 40 (tn e) ∧ (nI z < 2 ∨ s = B 41 (tn e)))) ) :
    tki B e s = (if s ≠ 0 ∧ s = B 40 (tn e) ∧ 2 ≤ z then 1 else 0) ∧ A1 c 2 = tkY B e s 41 (tn e) ∧ A1 c 6 = tkY B e s 63 (tn (5 * e + 1)) ∧
    (∃ z' : Nat, z' ≤ T + 1 ∧ A1 c 3 = nI z' ∧ (tkY B e s 40 (tn e) = 0 → tkY B e s 42 (tn e) = 0 ∧ tkY B e s 38 (tn (3 * e)) = 0 ∧ tkY B e s 38 (tn (3 * e + 1)) = 0 ∧ tkY B e s 38 (tn (3 * e + 2)) = 0) ∧
      (tkY B e s 40 (tn e) ≠ 0 → tkY B e s 42 (tn e) = nI (z' % 4) ∧ (tkY B e s 38 (tn (3 * e)) = 0 ↔ 1 ≤ z') ∧ (1 ≤ z' → (tkY B e s 38 (tn (3 * e + 1)) = 0 ↔ 2 ≤ z')))) := by
  obtain ⟨t37, t36, t40, t41, t42, t380, t381, t382, t390, t391, t392, t63, -, -⟩ := tkY_rd B e s he
  have hlt : (nI z < 2) ↔ z < 2 := nI_ltI (b := 2) (by omega) (by omega)
  simp only [hlt] at q2 q6
  have hki : tki B e s = (if s ≠ 0 ∧ s = B 40 (tn e) ∧ 2 ≤ z then 1 else 0) := by
    unfold tki tkv
    by_cases h0 : s = 0
    · simp [h0]
    · by_cases h1 : s = B 40 (tn e)
      · have hh : B 40 (tn e) ≠ 0 := fun h9 => h0 (h1.trans h9)
        obtain ⟨-, g1, g2⟩ := hp1 hh
        by_cases h2 : 2 ≤ z
        · rw [if_neg (by rw [if_neg h0, if_pos h1]; decide), if_pos (g1.mpr (by omega)), if_pos ((g2 (by omega)).mpr h2), if_pos ⟨h0, h1, h2⟩]
        · rw [if_neg (by rw [if_neg h0, if_pos h1]; decide), if_neg (c := s ≠ 0 ∧ s = B 40 (tn e) ∧ 2 ≤ z) (fun h9 => h2 h9.2.2)]
          by_cases h3 : B 38 (tn (3 * e)) = 0
          · rw [if_pos h3, if_neg (fun h9 => h2 ((g2 (g1.mp h3)).mp h9))]
          · rw [if_neg h3]
      · simp [h0, h1]
  refine ⟨hki, ?_, ?_, ?_⟩
  · rw [q2, t41, hki]
    by_cases h : s ≠ 0 ∧ s = B 40 (tn e) ∧ 2 ≤ z
    · rw [if_pos ⟨h.1, h.2.1, by omega⟩, if_pos h, if_neg (by decide)]
    · rw [if_neg (c := s ≠ 0 ∧ s = B 40 (tn e) ∧ ¬ z < 2) (fun h9 => h ⟨h9.1, h9.2.1, by omega⟩), if_neg h, if_pos rfl]
  · rw [q6, t63, hki]
    have hz3 : ((nI z + 1) &&& (3 : Int32) = 0) ↔ (z + 1) % 4 = 0 := by
      rw [nI_1, and3, ← nI_0, nI_eq (by omega) (by omega)]
    simp only [hz3]
    unfold tkv tkz inc
    by_cases h0 : s = 0
    · by_cases h1 : B 40 (tn e) = 0
      · simp [h0, h1]
      · obtain ⟨g0, -, -⟩ := hp1 h1
        have h4 : (B 42 (tn e) + 1 = 4) ↔ (z + 1) % 4 = 0 := by
          rw [g0, nI_1, show (4 : Int32) = nI 4 from rfl, nI_eq (by omega) (by omega)]
          omega
        by_cases h5 : (z + 1) % 4 = 0
        · have h6 := h4.mpr h5
          simp [h0, h1, h5, h6]
        · have h6 : ¬ B 42 (tn e) + 1 = 4 := fun h9 => h5 (h4.mp h9)
          simp [h0, h1, h5, h6]
    · by_cases h1 : s = B 40 (tn e)
      · by_cases h2 : 2 ≤ z
        · have h3 : ¬ z < 2 := by omega
          by_cases h4 : B 41 (tn e) = s
          · have h5 : s = B 41 (tn e) := h4.symm
            rw [if_pos (Or.inr ⟨h0, h1, Or.inr h5⟩)]
            simp [h0, ← h1, h2, h4]
          · have h5 : ¬ s = B 41 (tn e) := fun h9 => h4 h9.symm
            rw [if_neg (by rintro (h9 | h9); exact h0 h9.1; exact h9.2.2.elim h3 h5)]
            simp [h0, ← h1, h2, h4]
        · have h3 : z < 2 := by omega
          rw [if_pos (Or.inr ⟨h0, h1, Or.inl h3⟩)]
          simp [h0, ← h1, h2]
      · rw [if_neg (by rintro (h9 | h9); exact h0 h9.1; exact h1 h9.2.1)]
        simp [h0, h1]
  · rw [t40, t42, t380, t381, t382]
    unfold tkz
    by_cases h0 : s = 0
    · refine ⟨z + 1, by omega, by rw [q3, if_pos h0, nI_1], ?_, ?_⟩
      · intro h1
        rw [if_pos h0] at h1
        obtain ⟨-, g1, g2, g3⟩ := hp0 h1
        rw [if_pos h0, if_pos h1]
        exact ⟨by decide, h0, g1, g2⟩
      · intro h1
        rw [if_pos h0] at h1
        obtain ⟨g0, g1, g2⟩ := hp1 h1
        rw [if_pos h0, if_neg h1, g0, nI_1, mod4 _ (by omega)]
        refine ⟨by congr 1; omega, ⟨fun _ => by omega, fun _ => h0⟩, fun _ => ?_⟩
        rw [g1]
        omega
    · refine ⟨0, by omega, by rw [q3, if_neg h0]; rfl, ?_, ?_⟩
      · intro h1
        rw [if_neg h0] at h1
        exact absurd h1 h0
      · intro _
        rw [if_neg h0]
        exact ⟨by decide, ⟨fun h9 => absurd h9 h0, fun h9 => absurd h9 (by omega)⟩, fun h9 => absurd h9 (by omega)⟩
set_option maxHeartbeats 2000000 in
theorem D_step {A B : Mem} {b : Nat} {e s : Int32} {T : Nat} (he : e = 0 ∨ e = 1) (hT : T < 2000000) (h : RD A B b e T) :
    RD (sp_D_bitBehind (b + 7) A s).2 (tkY B e s) b e (T + 1) ∧
    ((((if 4 ≤ B 36 (tn e) then 4 else B 36 (tn e) + 1 : Int32) = 4) ∧ (sp_D_bitBehind (b + 7) A s).1 = tkb B e s ∧ (tkb B e s = 0 ∨ tkb B e s = 1)) ∨ (¬ ((if 4 ≤ B 36 (tn e) then 4 else B 36 (tn e) + 1 : Int32) = 4) ∧ (sp_D_bitBehind (b + 7) A s).1 = -1)) := by
  obtain ⟨r0, r1, r2, r6, ⟨z, hz, r3, hp0, hp1⟩, ⟨u, hu, r4, hu0, hu1, hu2⟩, hv0, hv1, hv2, w, hw, rw36, r5⟩ := h
  obtain ⟨A1, e0, q0, q5, q1, q3, q2, q4, q6⟩ := D_rd A (b + 7) s
  obtain ⟨t37, t36, t40, t41, t42, t380, t381, t382, t390, t391, t392, t63, -, -⟩ := tkY_rd B e s he
  rw [r1, r3, r2] at q2
  rw [r1, r3, r4] at q4
  rw [r1, r3, r2, r6] at q6
  rw [r1] at q1
  rw [r3] at q3
  obtain ⟨hki, k2, k6, hzz⟩ := D_core he hT hz hp0 hp1 q3 q2 q6
  obtain ⟨c1, c2, c3⟩ := cm_step w hw
  obtain ⟨s1, s2, s3⟩ := sh4 u hu
  have hlt : (nI z < 2) ↔ z < 2 := nI_ltI (b := 2) (by omega) (by omega)
  simp only [hlt] at q4
  rw [s1, s2] at q4
  have hV : tki B e s = 1 → B 38 (tn (3 * e)) = 0 ∧ B 38 (tn (3 * e + 1)) = 0 := by
    intro h9
    unfold tki at h9
    by_cases a1 : tkv B e s = 0
    · rw [if_pos a1] at h9; exact absurd h9 (by decide)
    · rw [if_neg a1] at h9
      by_cases a2 : B 38 (tn (3 * e)) = 0
      · rw [if_pos a2] at h9
        by_cases a3 : B 38 (tn (3 * e + 1)) = 0
        · exact ⟨a2, a3⟩
        · rw [if_neg a3] at h9; exact absurd h9 (by decide)
      · rw [if_neg a2] at h9; exact absurd h9 (by decide)
  -- the register
  have hreg : ∃ u' : Nat, u' < 16 ∧ A1 (b + 7) 4 = nI u' ∧ u' % 2 = (if s ≠ 0 ∧ tki B e s = 0 then 1 else 0) ∧ u' / 2 % 2 = (if B 38 (tn (3 * e)) ≠ 0 ∧ zb (B 39 (tn (3 * e))) = 0 then 1 else 0) ∧ u' / 4 % 2 = (if B 38 (tn (3 * e + 1)) ≠ 0 ∧ zb (B 39 (tn (3 * e + 1))) = 0 then 1 else 0) ∧ nI (u' / 8) = tkb B e s := by
    have z0 : zb (B 39 (tn (3 * e))) = B 39 (tn (3 * e)) := zb_01 (hv0.imp_right (·.1))
    have z1 : zb (B 39 (tn (3 * e + 1))) = B 39 (tn (3 * e + 1)) := zb_01 (hv1.imp_right (·.1))
    rw [z0, z1, ← hu0, ← hu1]
    have hb2 : tkb B e s = if tki B e s = 0 then nI (u / 4 % 2) else 0 := by
      rw [hu2]
      unfold tkb
      by_cases a1 : B 38 (tn (3 * e + 2)) = 0 <;> by_cases a2 : B 39 (tn (3 * e + 2)) = 0 <;> by_cases a3 : tki B e s = 0 <;> simp [a1, a2, a3] <;> rfl
    by_cases h0 : s = 0
    · have hk0 : tki B e s = 0 := by rw [hki]; simp [h0]
      refine ⟨2 * u % 16, by omega, by rw [q4, if_pos h0], ?_, by omega, by omega, ?_⟩
      · rw [if_neg (fun h9 => h9.1 h0)]; omega
      · rw [hb2, if_pos hk0]; congr 1; omega
    · by_cases h1 : s = B 40 (tn e) ∧ ¬ z < 2
      · have hk1 : tki B e s = 1 := by rw [hki, if_pos ⟨h0, h1.1, by omega⟩]
        obtain ⟨v1, v2⟩ := hV hk1
        refine ⟨0, by omega, by rw [q4, if_neg h0, if_pos h1]; rfl, ?_, ?_, ?_, ?_⟩
        · rw [if_neg (fun h9 => by rw [hk1] at h9; exact absurd h9.2 (by decide))]
        · rw [hu0, if_neg (fun h9 => h9.1 v1)]
        · rw [hu1, if_neg (fun h9 => h9.1 v2)]
        · rw [hb2, if_neg (by rw [hk1]; decide)]; rfl
      · have hk0 : tki B e s = 0 := by
          rw [hki, if_neg]
          rintro ⟨a1, a2, a3⟩
          exact h1 ⟨a2, by omega⟩
        refine ⟨(2 * u + 1) % 16, by omega, by rw [q4, if_neg h0, if_neg h1], ?_, by omega, by omega, ?_⟩
        · rw [if_pos ⟨h0, hk0⟩]; omega
        · rw [hb2, if_pos hk0]; congr 1; omega
  obtain ⟨u', hu', g4, g0, g1, g2, g8⟩ := hreg
  have hA : ∀ k, k ≠ 5 → (sp_D_bitBehind (b + 7) A s).2 (b + 7) k = A1 (b + 7) k := by
    intro k hk
    rw [e0]
    split
    · rfl
    · exact wr_k _ _ _ _ hk
  have hA5 : (sp_D_bitBehind (b + 7) A s).2 (b + 7) 5 = nI (min (min (w + 1) 4) 3) := by
    rw [e0, r5]
    by_cases h3 : 3 ≤ w
    · rw [if_pos (c2.mpr h3)]
      show A1 (b + 7) 5 = _
      rw [q5, r5]
      congr 1
      omega
    · rw [if_neg (fun h9 => h3 (c2.mp h9))]
      show wr A1 (b + 7) 5 _ (b + 7) 5 = _
      rw [wr_same, c3 (by omega)]
      congr 1
      omega
  have h1 : (sp_D_bitBehind (b + 7) A s).1 = (if 3 ≤ w then tkb B e s else -1) := by
    rw [e0, r5]
    by_cases h3 : 3 ≤ w
    · rw [if_pos (c2.mpr h3), if_pos h3, ← g8]
      show (A1 (b + 7) 4 >>> ((3 : Int32) &&& 31)) &&& (1 : Int32) = _
      rw [g4]
      exact (sh4 u' hu').2.2
    · rw [if_neg (fun h9 => h3 (c2.mp h9)), if_neg h3]
  refine ⟨⟨?_, ?_, ?_, ?_, ?_, ?_, ?_, ?_, ?_, ?_⟩, ?_⟩
  · rw [hA 0 (by decide), q0, t37]
  · rw [hA 1 (by decide), q1, t40]
  · rw [hA 2 (by decide), k2]
  · rw [hA 6 (by decide), k6]
  · rw [hA 3 (by decide)]; exact hzz
  · rw [hA 4 (by decide), t380, t381, t382, t390, t391, t392]
    exact ⟨u', hu', g4, g0, g1, g2⟩
  · rw [t390, t381, t382]
    rcases tki_01 B e s with h9 | h9
    · exact Or.inl h9
    · exact Or.inr ⟨h9, hV h9⟩
  · rw [t391, t382]
    rcases hv0 with h9 | ⟨h9, h8, -⟩
    · exact Or.inl (by rw [h9]; rfl)
    · exact Or.inr ⟨by rw [h9]; rfl, h8⟩
  · rw [t392]
    rcases hv1 with h9 | ⟨h9, -⟩
    · exact Or.inl (by rw [h9]; rfl)
    · exact Or.inr (by rw [h9]; rfl)
  · exact ⟨min (w + 1) 4, by omega, by rw [t36, rw36, c1], hA5⟩
  · rw [rw36, c1, h1]
    by_cases h3 : 3 ≤ w
    · refine Or.inl ⟨by rw [show min (w + 1) 4 = 4 by omega]; rfl, by rw [if_pos h3], ?_⟩
      rw [← g8]
      have : u' / 8 = 0 ∨ u' / 8 = 1 := by omega
      rcases this with h9 | h9 <;> rw [h9]
      · exact Or.inl rfl
      · exact Or.inr rfl
    · refine Or.inr ⟨fun h9 => ?_, by rw [if_neg h3]⟩
      have := nI_inj (b := 4) (by omega) (by omega) h9
      omega
