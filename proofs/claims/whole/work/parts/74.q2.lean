theorem wi_ok {v lo hi : Int32} (h1 : lo ≤ v) (h2 : v ≤ hi) (G : Mem) : sp_M_within G v lo hi = 1 := by
  unfold sp_M_within; rw [if_neg (Int32.not_lt.mpr h1), if_neg (Int32.not_lt.mpr h2)]
theorem wi_no {v lo hi : Int32} (h : v < lo ∨ hi < v) (G : Mem) : sp_M_within G v lo hi = 0 := by
  unfold sp_M_within
  rcases h with h | h
  · rw [if_pos h]
  · by_cases h2 : v < lo
    · rw [if_pos h2]
    · rw [if_neg h2, if_pos h]
theorem ok_count {n : Nat} {G : Mem} (h : Rel n G) (a k : Int32) : okk Rel n (sp_F_count G a k) (sp_M_count (sp_F_count G a k).2.2 a k) := by
  rcases end_cases h a with ⟨b, t, ht, -, he, E, hb, hN, -⟩ | ⟨h0, h1, E⟩
  · obtain ⟨hD, hR, hO⟩ := hN.2.2.2
    obtain ⟨f, -, f7, f63, -⟩ := hR.2.2.2.2.2.2.1
    have hd := hD.2.2.2.1
    have hr := hR.2.2.2.2.1
    have ho3 := hO.1
    have ho4 := hO.2.1
    have z50 : tn (5 * a + 0) = tn (5 * a) := by rcases he with rfl | rfl <;> rfl
    have hF : sp_F_count G a k = (if k = 0 then (0, G (b + 8) 7, G) else if k = 1 then (0, G (b + 7) 6, G) else if k = 2 then (0, G (b + 8) 8, G) else if k = 3 then (0, G (b + 9) 11, G) else if k = 4 then (0, G (b + 9) 12, G) else (1, 0, G)) := by
      unfold sp_F_count; rw [E]; simp only [hb, if_true]
    by_cases k0 : k = 0
    · subst k0
      exact okk_of (Y := fun G => sp_M_count G a 0) (c := 0) (v1 := G (b + 8) 7) (v2 := G 63 (tn (5 * a + 0))) h (by rw [hF, if_pos rfl]) (by show sp_M_count G a 0 = _; unfold sp_M_count; rw [ie_ok he]; rfl) (fun _ => by rw [z50, f7, f63])
    by_cases k1 : k = 1
    · subst k1
      exact okk_of (Y := fun G => sp_M_count G a 1) (c := 0) (v1 := G (b + 7) 6) (v2 := G 63 (tn (5 * a + 1))) h (by rw [hF]; rfl) (by show sp_M_count G a 1 = _; unfold sp_M_count; rw [ie_ok he]; rfl) (fun _ => hd.symm)
    by_cases k2 : k = 2
    · subst k2
      exact okk_of (Y := fun G => sp_M_count G a 2) (c := 0) (v1 := G (b + 8) 8) (v2 := G 63 (tn (5 * a + 2))) h (by rw [hF]; rfl) (by show sp_M_count G a 2 = _; unfold sp_M_count; rw [ie_ok he]; rfl) (fun _ => hr.symm)
    by_cases k3 : k = 3
    · subst k3
      exact okk_of (Y := fun G => sp_M_count G a 3) (c := 0) (v1 := G (b + 9) 11) (v2 := G 63 (tn (5 * a + 3))) h (by rw [hF]; rfl) (by show sp_M_count G a 3 = _; unfold sp_M_count; rw [ie_ok he]; rfl) (fun _ => ho3.symm)
    by_cases k4 : k = 4
    · subst k4
      exact okk_of (Y := fun G => sp_M_count G a 4) (c := 0) (v1 := G (b + 9) 12) (v2 := G 63 (tn (5 * a + 4))) h (by rw [hF]; rfl) (by show sp_M_count G a 4 = _; unfold sp_M_count; rw [ie_ok he]; rfl) (fun _ => ho4.symm)
    have hw : sp_M_within G k 0 4 = 0 := by
      apply wi_no
      by_cases c1 : k < 0
      · exact Or.inl c1
      · right
        by_cases c2 : 4 < k
        · exact c2
        · exfalso
          obtain ⟨j, hj, rfl⟩ := bd_nat (v := k) (n := 4) (by decide) (Int32.not_lt.mp c1) (Int32.not_lt.mp c2)
          have : j = 0 ∨ j = 1 ∨ j = 2 ∨ j = 3 ∨ j = 4 := by omega
          rcases this with rfl | rfl | rfl | rfl | rfl
          · exact k0 rfl
          · exact k1 rfl
          · exact k2 rfl
          · exact k3 rfl
          · exact k4 rfl
    refine okk_of (Y := fun G => sp_M_count G a k) (c := 1) (v1 := 0) (v2 := 0) h ?_ ?_ (fun _ => rfl)
    · rw [hF, if_neg k0, if_neg k1, if_neg k2, if_neg k3, if_neg k4]
    · show sp_M_count G a k = _
      unfold sp_M_count; rw [ie_ok he, hw]; rfl
  · refine okk_of (Y := fun G => sp_M_count G a k) (c := 1) (v1 := 0) (v2 := 0) h ?_ ?_ (fun _ => rfl)
    · unfold sp_F_count; rw [E]; rfl
    · show sp_M_count G a k = _
      unfold sp_M_count; rw [ie_no h0 h1]; rfl
theorem by_eq (x : Int32) (m : Nat) (hm : m ≤ 24) : (x >>> (nI m &&& 31)) &&& 255 = iu x (nI m) &&& 255 := by
  apply b_ext
  intro i hi
  rw [b_and, b_and, b_255, iu_bt m (by omega), b_sshr m (by omega) x hi]
  by_cases h : i < 8
  · rw [if_pos (show m + i < 32 by omega)]
  · simp [h]
theorem by_ix : ∀ j, j < 4 → (32 - 8 * (nI j + 1) : Int32) = nI (24 - 8 * j) ∧ (24 - 8 * nI j : Int32) = nI (24 - 8 * j) := by decide +kernel
theorem le3 {v : Int32} (h : ¬ 4 ≤ v) : v ≤ 3 := by
  rw [Int32.le_iff_toInt_le] at *
  have e4 : (4 : Int32).toInt = 4 := by decide
  have e3 : (3 : Int32).toInt = 3 := by decide
  omega
theorem lt4 {v : Int32} (h : 4 ≤ v) : 3 < v := by
  rw [Int32.lt_iff_toInt_lt]
  rw [Int32.le_iff_toInt_le] at h
  have e4 : (4 : Int32).toInt = 4 := by decide
  have e3 : (3 : Int32).toInt = 3 := by decide
  omega
theorem rq_0 (G : Mem) : sp_F_require G 0 = (1, 0, G) := rfl
theorem rq_1 (G : Mem) : sp_F_require G 1 = (0, 0, G) := rfl
theorem ok_slot {n : Nat} {G : Mem} (h : Rel n G) (hn : n < 512) (a k : Int32) : okk Rel n (sp_F_slot G a k) (sp_M_slot (sp_F_slot G a k).2.2 a k) := by
  rcases end_cases h a with ⟨b, t, ht, -, he, E, hb, hN, -⟩ | ⟨h0, h1, E⟩
  · have hF : sp_F_slot G a k = (if (sp_F_require G (if k < 0 then 0 else (if 4 ≤ k then 0 else 1))).1 = 0 then (0, sp_R_byteOf (b + 8) G k, G) else ((sp_F_require G (if k < 0 then 0 else (if 4 ≤ k then 0 else 1))).1, 0, G)) := by
      unfold sp_F_slot; rw [E]; simp only [hb, if_true, rq_mem]
    by_cases c1 : k < 0
    · rw [if_pos c1, rq_0] at hF
      refine okk_of (Y := fun G => sp_M_slot G a k) (c := 1) (v1 := 0) (v2 := 0) h hF ?_ (fun _ => rfl)
      show sp_M_slot G a k = _
      unfold sp_M_slot; rw [ie_ok he, wi_no (Or.inl c1)]; rfl
    rw [if_neg c1] at hF
    by_cases c2 : 4 ≤ k
    · rw [if_pos c2, rq_0] at hF
      refine okk_of (Y := fun G => sp_M_slot G a k) (c := 1) (v1 := 0) (v2 := 0) h hF ?_ (fun _ => rfl)
      show sp_M_slot G a k = _
      unfold sp_M_slot; rw [ie_ok he, wi_no (Or.inr (lt4 c2))]; rfl
    rw [if_neg c2, rq_1] at hF
    obtain ⟨j, hj, rfl⟩ := bd_nat (v := k) (n := 3) (by decide) (Int32.not_lt.mp c1) (le3 c2)
    obtain ⟨i1, i2⟩ := by_ix j (by omega)
    refine okk_of (Y := fun G => sp_M_slot G a (nI j)) (c := 0) (v1 := sp_R_byteOf (b + 8) G (nI j)) (v2 := if G 49 (tn a) = 0 then -1 else ((G 50 (tn a)) >>> ((24 - (8 * nI j)) &&& 31)) &&& (255 : Int32)) h hF ?_ (fun _ => ?_)
    · show sp_M_slot G a (nI j) = _
      unfold sp_M_slot; rw [ie_ok he, wi_ok (Int32.not_lt.mp c1) (le3 c2)]; rfl
    · have hR := hN.2.2.2.2.1
      obtain ⟨f, hf, f7, -, f49⟩ := hR.2.2.2.2.2.2.1
      unfold sp_R_byteOf
      rw [f7, f49, hR.2.2.2.1, i1, i2, by_eq _ _ (by omega)]
      by_cases c : f = 0
      · subst c; rfl
      · rw [if_neg c, if_neg (show ¬ (1 : Int32) = 0 by decide), if_neg (nI_ne0 (by omega) (by omega))]
  · refine okk_of (Y := fun G => sp_M_slot G a k) (c := 1) (v1 := 0) (v2 := 0) h ?_ ?_ (fun _ => rfl)
    · unfold sp_F_slot; rw [E]; rfl
    · show sp_M_slot G a k = _
      unfold sp_M_slot; rw [ie_no h0 h1]; rfl
