theorem RO_congr {A A' B B' : Mem} {c : Nat} {e : Int32} {T : Nat} {md ev : Int32} (hA : ∀ k, A' c k = A c k) (hB : ∀ cc k, cc ∈ [52, 53, 54, 55, 56, 57, 58, 59, 60, 61, 62] → B' cc k = B cc k) (h3 : B' 63 (tn (5 * e + 3)) = B 63 (tn (5 * e + 3))) (h4 : B' 63 (tn (5 * e + 4)) = B 63 (tn (5 * e + 4))) (h : RO A B c e T md ev) : RO A' B' c e T md ev := by
  have b52 : ∀ k, B' 52 k = B 52 k := fun k => hB 52 k (by decide)
  have b53 : ∀ k, B' 53 k = B 53 k := fun k => hB 53 k (by decide)
  have b54 : ∀ k, B' 54 k = B 54 k := fun k => hB 54 k (by decide)
  have b55 : ∀ k, B' 55 k = B 55 k := fun k => hB 55 k (by decide)
  have b56 : ∀ k, B' 56 k = B 56 k := fun k => hB 56 k (by decide)
  have b57 : ∀ k, B' 57 k = B 57 k := fun k => hB 57 k (by decide)
  have b58 : ∀ k, B' 58 k = B 58 k := fun k => hB 58 k (by decide)
  have b59 : ∀ k, B' 59 k = B 59 k := fun k => hB 59 k (by decide)
  have b60 : ∀ k, B' 60 k = B 60 k := fun k => hB 60 k (by decide)
  have b61 : ∀ k, B' 61 k = B 61 k := fun k => hB 61 k (by decide)
  have b62 : ∀ k, B' 62 k = B 62 k := fun k => hB 62 k (by decide)
  unfold RO RH at *
  simp only [hA, b52, b53, b54, b55, b56, b57, b58, b59, b60, b61, b62, h3, h4]
  exact h
theorem RO_mono {A B : Mem} {c : Nat} {e : Int32} {T T' : Nat} {md ev : Int32} (hT : T ≤ T') (h : RO A B c e T md ev) : RO A B c e T' md ev := by
  obtain ⟨a1, a2, a3, a4, a5, a6, ⟨f, hf, hr⟩, a8⟩ := h
  exact ⟨a1, a2, a3, a4, a5, a6, ⟨f, by omega, hr⟩, a8⟩
theorem RO_unk {A B : Mem} {c : Nat} {e : Int32} {T : Nat} {md md' ev ev' : Int32} (h1 : md ≠ 2) (h2 : md' ≠ 2) (h : RO A B c e T md ev) : RO A B c e T md' ev' := by
  obtain ⟨a1, a2, a3, a4, a5, a6, ⟨f, hf, h3, h4, h5⟩, a8⟩ := h
  exact ⟨a1, a2, a3, a4, a5, a6, ⟨f, hf, h3, fun _ => h4 h1, fun h9 => absurd h9 h2⟩, a8.imp_right (fun h9 => absurd h9.2.1 h1)⟩
/-- what forgetting does where nothing is known -/
theorem RO_forget {A B : Mem} {c : Nat} {e : Int32} {T : Nat} {md ev : Int32} (he : e = 0 ∨ e = 1) (h1 : md ≠ 2) (h : RO A B c e T md ev) : RO A (sp_M_forget B e) c e T md ev := by
  have hu : B 52 (tn e) = 0 ∧ B 57 (tn e) = 0 ∧ B 60 (tn e) = 0 ∧ B 62 (tn (2 * e)) = 0 ∧ B 62 (tn (2 * e + 1)) = 0 := by
    rcases h.2.2.2.2.2.2.2 with h9 | h9
    · exact ⟨h9.1, h9.2.2.2.2.1, h9.2.2.2.2.2.1, h9.2.2.2.2.2.2.1, h9.2.2.2.2.2.2.2⟩
    · exact absurd h9.2.1 h1
  obtain ⟨u1, u2, u3, u4, u5⟩ := hu
  have hz : sp_M_forget B e = B := by
    unfold sp_M_forget
    have z0 : zb 0 = 0 := rfl
    have s1 : wr B 52 (tn e) (zb 0) = B := by rw [z0, ← u1]; exact wr_id _ _ _
    rw [s1]
    have s2 : wr B 57 (tn e) (zb 0) = B := by rw [z0, ← u2]; exact wr_id _ _ _
    rw [s2]
    have s3 : wr B 60 (tn e) (zb 0) = B := by rw [z0, ← u3]; exact wr_id _ _ _
    rw [s3]
    have s4 : wr B 62 (tn (2 * e)) (zb 0) = B := by rw [z0, ← u4]; exact wr_id _ _ _
    rw [s4]
    rw [z0, ← u5]
    exact wr_id _ _ _
  rw [hz]
  exact h
def RR (A B : Mem) (c : Nat) (e : Int32) (T : Nat) : Prop :=
  A c 1 = B 43 (tn e) ∧ (B 43 (tn e) = 0 ∨ B 43 (tn e) = 1 ∨ B 43 (tn e) = 2) ∧ A c 2 = B 45 (tn e) ∧ A c 6 = B 50 (tn e) ∧ A c 8 = B 63 (tn (5 * e + 2)) ∧ zb (A c 9) = B 51 (tn e) ∧
  (∃ f : Nat, f ≤ T ∧ A c 7 = nI f ∧ B 63 (tn (5 * e)) = nI f ∧ B 49 (tn e) = (if f = 0 then 0 else 1)) ∧ (B 47 (tn e) = 0 ∨ B 47 (tn e) = 1) ∧
  (∃ n : Nat, n ≤ T ∧ A c 3 = nI n ∧ (B 43 (tn e) ≠ 2 → B 44 (tn e) = nI (min n 100)) ∧ (B 43 (tn e) = 1 → n < 64) ∧ (B 43 (tn e) = 2 → n < 32 ∧ B 46 (tn e) = nI n)) ∧
  (B 43 (tn e) = 2 → ((zb (A c 4) = 0 ∧ B 47 (tn e) = 1) ∨ (zb (A c 4) = 1 ∧ B 47 (tn e) = 0)) ∧ A c 5 = B 48 (tn e))
theorem al_eq (x : Int32) : ((iu x 24 &&& 255) &&& 32 = 0) ↔ ¬ ((x >>> ((29 : Int32) &&& 31)) &&& 1 = 1) := by
  have h1 : ((iu x 24 &&& 255) &&& 32 = 0) ↔ bt x 29 = false := by
    constructor
    · intro h
      have h2 : bt ((iu x 24 &&& 255) &&& 32) 5 = false := by rw [h]; exact b_0 5
      rw [b_and, b_and, b_255, show (24 : Int32) = nI 24 from rfl, iu_bt 24 (by omega)] at h2
      simpa [show bt 32 5 = true from by decide +kernel] using h2
    · intro h
      apply b_ext
      intro i hi
      rw [b_and, b_and, b_255, show (24 : Int32) = nI 24 from rfl, iu_bt 24 (by omega), b_0]
      by_cases h5 : i = 5
      · subst h5; rw [h]; simp
      · have h6 : bt 32 i = false := (by decide +kernel : ∀ i, i < 32 → i ≠ 5 → bt 32 i = false) i hi h5
        rw [h6]; simp
  rw [h1]
  have h3 : (x >>> ((29 : Int32) &&& 31)) &&& 1 = iu x (nI 29) &&& 1 := iu_sr 29 (by omega) x
  rw [h3]
  constructor
  · intro h h2
    have h4 : bt (iu x (nI 29) &&& 1) 0 = true := by rw [h2]; decide +kernel
    rw [b_and, iu_bt 29 (by omega), b_1] at h4
    simp [h] at h4
  · intro h
    cases hb : bt x 29 with
    | false => rfl
    | true =>
      refine absurd ?_ h
      apply b_ext
      intro i hi
      rw [b_and, iu_bt 29 (by omega), b_1]
      by_cases h0 : i = 0
      · subst h0; simp [hb]
      · simp [h0]
