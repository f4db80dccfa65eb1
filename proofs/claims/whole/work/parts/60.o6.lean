theorem fx4 {G : Mem} {e x : Int32} {c k : Nat} (h : c ≠ 63 ∨ k ≠ tn (5 * e + 4)) : sp_M_fault G e x 4 c k = G c k := by
  unfold sp_M_fault
  rw [wr_r, if_neg]
  rintro ⟨h1, h2⟩
  rcases h with h9 | h9
  · exact h9 h1
  · exact h9 h2
theorem fx4_s {G : Mem} {e x : Int32} : sp_M_fault G e x 4 63 (tn (5 * e + 4)) = if x = 0 then G 63 (tn (5 * e + 4)) else G 63 (tn (5 * e + 4)) + 1 := by
  unfold sp_M_fault
  rw [wr_same]
set_option maxHeartbeats 4000000 in
/-- a frame of known number that stays known: A4 is the class behind its looking at the number, G the reference before its halves -/
theorem O_known {A A4 B G : Mem} {c : Nat} {e o ev x : Int32} {T f' q q' : Nat} (he : e = 0 ∨ e = 1) (hq : q < 16) (hq' : q' = (q + 1) % 16) (hRH : RH A B c e q) (hbl : bitsLt (A c 8) 4) (hoe : (ev = 1 ∧ o = 0) ∨ (ev = 0 ∧ o = 1)) (hpar : ev = 1 ↔ q % 2 = 1) (hf' : f' ≤ T + 1) (h6 : 6 ≤ f')
    (a0 : A4 c 0 = nI q') (a1 : A4 c 1 = nI f') (a2 : bitsLt (A4 c 2) 6) (a3 : A4 c 3 = G 56 (tn e)) (a4 : A4 c 4 = A c 4) (a5 : A4 c 5 = A c 5) (a7 : A4 c 7 = A c 7) (a6 : A4 c 6 = ck (B 45 (tn e)) 31 (wf (A c 6) (if o = 0 then 0 else iu (B 45 (tn e)) 31))) (a8 : A4 c 8 = if o = 0 then ((A c 8 <<< ((1 : Int32) &&& 31)) ||| iu (B 45 (tn e)) 31) &&& (15 : Int32) else A c 8) (a8b : bitsLt (A4 c 8) 4)
    (a9 : zb (A4 c 9) = G 62 (tn (2 * e))) (a10 : zb (A4 c 10) = G 62 (tn (2 * e + 1))) (a11 : A4 c 11 = G 63 (tn (5 * e + 3))) (a12 : A4 c 12 = sp_M_fault G e x 4 63 (tn (5 * e + 4)))
    (g52 : G 52 (tn e) = 1) (g53 : G 53 (tn e) = nI q') (g47 : G 47 (tn e) = ev) (g57 : G 57 (tn e) = B 57 (tn e)) (g58 : G 58 (tn e) = B 58 (tn e)) (g59 : G 59 (tn e) = B 59 (tn e)) (g60 : G 60 (tn e) = B 60 (tn e)) (g61 : G 61 (tn e) = B 61 (tn e)) (g55 : G 55 (tn e) = nI (min f' 6)) (g54 : lowEq (A4 c 2) (G 54 (tn e)) (min f' 6)) :
    RO (tf4 c A4) (sp_M_halves (sp_M_fault G e x 4) e (B 45 (tn e)) (iu (B 45 (tn e)) 31)) c e (T + 1) 2 (if ev = 0 then 1 else 0) ∧ (∀ k, k ≠ tn (5 * e + 3) → k ≠ tn (5 * e + 4) → sp_M_halves (sp_M_fault G e x 4) e (B 45 (tn e)) (iu (B 45 (tn e)) 31) 63 k = G 63 k) := by
  have F : ∀ {c k : Nat}, c ≠ 63 → sp_M_fault G e x 4 c k = G c k := fun h => fx4 (Or.inl h)
  have i34 : tn (5 * e + 3) ≠ tn (5 * e + 4) := by rcases he with rfl | rfl <;> decide
  obtain ⟨r1, r2, r3, r4, ⟨k0, k1, k2, k3, k8, k12⟩, r6⟩ := H_step (G := sp_M_fault G e x 4) (A3 := A4) he hq hq' hRH hbl hoe hpar a0 a4 a5 a7 a6 a8 (by rw [F (by decide)]; exact a9) (by rw [F (by decide)]; exact a10) (by rw [fx4 (Or.inr i34)]; exact a11) (by rw [F (by decide)]; exact g53) (by rw [F (by decide)]; exact g47) (by rw [F (by decide)]; exact g57) (by rw [F (by decide)]; exact g58) (by rw [F (by decide)]; exact g59) (by rw [F (by decide)]; exact g60) (by rw [F (by decide)]; exact g61)
  have HC : ∀ {cc k : Nat}, cc ∉ ([57, 58, 59, 60, 61, 62, 63] : List Nat) → sp_M_halves (sp_M_fault G e x 4) e (B 45 (tn e)) (iu (B 45 (tn e)) 31) cc k = G cc k := by
    intro cc k h9
    rw [fr_M_halves h9, F (by intro h8; subst h8; exact h9 (by decide))]
  refine ⟨⟨r4, ?_, r2, r3, by rw [k2]; exact a2, by rw [k8]; exact a8b, ⟨f', hf', by rw [k1]; exact a1, fun h9 => absurd rfl h9, fun _ => ⟨by rw [HC (by decide)]; exact g55, by rw [k2, HC (by decide)]; exact g54⟩⟩, Or.inr ⟨by rw [HC (by decide)]; exact g52, rfl, ?_, by rw [k3, HC (by decide)]; exact a3, q', by omega, by rw [HC (by decide)]; exact g53, by rw [k0]; exact a0, ?_, r1⟩⟩, fun k h3 h4 => ?_⟩
  · rw [k12, r6 _ (Ne.symm i34)]; exact a12
  · rw [HC (by decide), g55, show min f' 6 = 6 by omega]; rfl
  · rcases hoe with ⟨rfl, -⟩ | ⟨rfl, -⟩
    · have := hpar.mp rfl
      rw [if_neg (by decide)]
      exact ⟨fun h9 => absurd h9 (by decide), fun h9 => by omega⟩
    · have : ¬ q % 2 = 1 := fun h9 => absurd (hpar.mpr h9) (by decide)
      rw [if_pos rfl]
      exact ⟨fun _ => by omega, fun _ => rfl⟩
  · rw [r6 k h3, fx4 (Or.inr h4)]
set_option maxHeartbeats 4000000 in
theorem O_step {A B : Mem} {c : Nat} {e o ev : Int32} {T : Nat} (he : e = 0 ∨ e = 1) (hT : T < 2000000) (h : RO A B c e T 2 ev) (hoe : (ev = 1 ∧ o = 0) ∨ (ev = 0 ∧ o = 1)) (h47 : B 47 (tn e) = ev) :
    RO (sp_O_takeFrame c A (B 45 (tn e)) o) (sp_M_complete B e) c e (T + 1) 2 (if ev = 0 then 1 else 0) ∧ sp_M_complete B e 63 (tn (5 * e)) = B 63 (tn (5 * e)) + 1 ∧ sp_M_complete B e 63 (tn (5 * e + 1)) = B 63 (tn (5 * e + 1)) ∧ sp_M_complete B e 63 (tn (5 * e + 2)) = B 63 (tn (5 * e + 2)) := by
  obtain ⟨h11, h12, h9, h10, h2, h8, ⟨f, hf, h1, -, hm⟩, hk⟩ := h
  obtain ⟨h55, h54⟩ := hm rfl
  obtain ⟨f', hf', hff, b1, b2, b8, c55, c54, mk, e8, eo⟩ := front hT hf h1 h2 h8 h55 h54 hoe h47
  have z50 : tn (5 * e + 0) = tn (5 * e) := by rcases he with rfl | rfl <;> rfl
  have n0 : ∀ j : Int32, j = 1 ∨ j = 2 ∨ j = 3 ∨ j = 4 → tn (5 * e + j) ≠ tn (5 * e) := by rcases he with rfl | rfl <;> rintro j (rfl | rfl | rfl | rfl) <;> decide
  have m63 : ∀ j : Int32, j = 1 ∨ j = 2 ∨ j = 3 ∨ j = 4 → cm2 B e 63 (tn (5 * e + j)) = B 63 (tn (5 * e + j)) := fun j hj => by rw [cm2_63, z50, if_neg (n0 j hj)]
  have m630 : cm2 B e 63 (tn (5 * e)) = B 63 (tn (5 * e)) + 1 := by rw [cm2_63, z50, if_pos rfl]
  have M : ∀ {cc k : Nat}, cc ∉ ([49, 50, 51, 54, 55, 63] : List Nat) → cm2 B e cc k = B cc k := fun h => cm2_c h
  rw [tf_eq, cmp_eq]
  rcases hk with ⟨k52, k0, k4, k5, k57, k60, k620, k621⟩ | ⟨k52, -, k55, k3, q, hq, k53, k0, hpar, hRH⟩
  · -- the number isn't known
    rw [if_pos k0]
    have e152 : sp_M_complete_152 e (cm2 B e) (B 45 (tn e)) (iu (B 45 (tn e)) 31) (cmk B e) = wr (wr (wr (cm2 B e) 52 (tn e) (zb (cmk B e))) 53 (tn e) 11) 56 (tn e) 0 := by
      unfold sp_M_complete_152
      rw [if_pos (by rw [M (by decide)]; exact k52)]
    rw [e152]
    have R : ∀ {cc k : Nat}, cc ∉ ([52, 53, 56] : List Nat) → wr (wr (wr (cm2 B e) 52 (tn e) (zb (cmk B e))) 53 (tn e) 11) 56 (tn e) 0 cc k = cm2 B e cc k := by
      intro cc k hc
      simp only [List.mem_cons, List.not_mem_nil, or_false, not_or] at hc
      simp [wr_r, hc]
    have hfind : sp_O_findNumber c (tf1 c A (B 45 (tn e)) o) o = if o ≠ 0 ∧ 6 ≤ f' ∧ tf1 c A (B 45 (tn e)) o c 2 = 11 then wr (wr (tf1 c A (B 45 (tn e)) o) c 0 11) c 3 0 else tf1 c A (B 45 (tn e)) o := by
      unfold sp_O_findNumber
      rw [b1]
      have hlt : (nI f' < 6) ↔ f' < 6 := nI_ltI (b := 6) (by omega) (by omega)
      by_cases ho : o = 0
      · rw [if_pos ho, if_neg (fun h9 => h9.1 ho)]
      · rw [if_neg ho]
        by_cases h6 : f' < 6
        · rw [if_pos (hlt.mpr h6), if_neg (fun h9 => by omega)]
        · rw [if_neg (fun h9 => h6 (hlt.mp h9))]
          by_cases h11 : tf1 c A (B 45 (tn e)) o c 2 = 11
          · rw [if_pos h11, if_pos ⟨ho, by omega, h11⟩]
          · rw [if_neg h11, if_neg (fun h9 => h11 h9.2.2)]
    rw [hfind]
    refine ⟨?_, by rw [R (by decide)]; exact m630, by rw [R (by decide)]; exact m63 1 (by simp), by rw [R (by decide)]; exact m63 2 (by simp)⟩
    by_cases hF : o ≠ 0 ∧ 6 ≤ f' ∧ tf1 c A (B 45 (tn e)) o c 2 = 11
    · rw [if_pos hF]
      rw [if_pos hF] at mk
      have ho : ev = 0 ∧ o = 1 := hoe.resolve_left (fun h9 => hF.1 h9.2)
      have S : ∀ {k : Nat}, k ≠ 0 → k ≠ 3 → wr (wr (tf1 c A (B 45 (tn e)) o) c 0 11) c 3 0 c k = tf1 c A (B 45 (tn e)) o c k := fun a b => by rw [wr_k _ _ _ _ b, wr_k _ _ _ _ a]
      refine ⟨by rw [S (by decide) (by decide), eo 11 (by decide), R (by decide), m63 3 (by simp)]; exact h11, by rw [S (by decide) (by decide), eo 12 (by decide), R (by decide), m63 4 (by simp)]; exact h12, by rw [S (by decide) (by decide), eo 9 (by decide), R (by decide), M (by decide)]; exact h9, by rw [S (by decide) (by decide), eo 10 (by decide), R (by decide), M (by decide)]; exact h10, by rw [S (by decide) (by decide)]; exact b2, by rw [S (by decide) (by decide)]; exact b8, ⟨f', hf', by rw [S (by decide) (by decide)]; exact b1, fun h9 => absurd rfl h9, fun _ => ⟨by rw [R (by decide)]; exact c55, by rw [S (by decide) (by decide), R (by decide)]; exact c54⟩⟩, Or.inr ⟨?_, rfl, ?_, ?_, 11, by decide, ?_, ?_, ?_, ?_⟩⟩
      · rw [mk]; simp [wr_r]; rfl
      · rw [R (by decide), c55, show min f' 6 = 6 by omega]; rfl
      · rw [wr_same, wr_same]
      · simp [wr_r]; rfl
      · rw [wr_k _ _ _ _ (by decide), wr_same]; rfl
      · rw [ho.1, if_pos rfl]; decide
      · refine ⟨Or.inl (by rw [R (by decide), M (by decide)]; exact k57), Or.inl (by rw [R (by decide), M (by decide)]; exact k60), fun _ => ⟨by rw [S (by decide) (by decide), eo 4 (by decide), R (by decide), M (by decide), k57]; exact k4, by rw [S (by decide) (by decide), eo 5 (by decide), R (by decide), M (by decide), k60]; exact k5, fun h9 => ?_⟩, fun h9 => absurd h9 (by decide), fun h9 => ?_, fun h9 => ?_⟩
        · rw [R (by decide), M (by decide), k57] at h9; exact absurd h9 (by decide)
        · rw [R (by decide), M (by decide), k60] at h9; exact absurd h9 (by decide)
        · rw [R (by decide), M (by decide), k57] at h9; exact absurd h9 (by decide)
    · rw [if_neg hF]
      rw [if_neg hF] at mk
      refine ⟨by rw [eo 11 (by decide), R (by decide), m63 3 (by simp)]; exact h11, by rw [eo 12 (by decide), R (by decide), m63 4 (by simp)]; exact h12, by rw [eo 9 (by decide), R (by decide), M (by decide)]; exact h9, by rw [eo 10 (by decide), R (by decide), M (by decide)]; exact h10, b2, b8, ⟨f', hf', b1, fun h9 => absurd rfl h9, fun _ => ⟨by rw [R (by decide)]; exact c55, by rw [R (by decide)]; exact c54⟩⟩, Or.inl ⟨?_, by rw [eo 0 (by decide)]; exact k0, by rw [eo 4 (by decide)]; exact k4, by rw [eo 5 (by decide)]; exact k5, by rw [R (by decide), M (by decide)]; exact k57, by rw [R (by decide), M (by decide)]; exact k60, by rw [R (by decide), M (by decide)]; exact k620, by rw [R (by decide), M (by decide)]; exact k621⟩⟩
      rw [mk]; simp [wr_r]; rfl
  · -- it is known
    obtain ⟨pA, pB⟩ := pl_step q hq
    have hq2 : (q + 1) % 16 < 16 := by omega
    obtain ⟨-, -, i15, i11, i13, i7, im1⟩ := m8_0 ((q + 1) % 16) hq2
    rw [if_neg (by rw [k0]; exact (m8_0 q hq).2.2.2.2.2.2)]
    have f6 : 6 ≤ f := by
      have : nI (min f 6) = nI 6 := h55.symm.trans k55
      have := nI_inj (by omega) (by omega) this
      omega
    have t0 : tf2 c A (B 45 (tn e)) o c 0 = nI ((q + 1) % 16) := by unfold tf2; rw [wr_k _ _ _ _ (by decide), wr_same, k0, pA]
    have t6 : tf2 c A (B 45 (tn e)) o c 6 = ck (B 45 (tn e)) 31 (wf (A c 6) (if o = 0 then 0 else iu (B 45 (tn e)) 31)) := by unfold tf2; rw [wr_same]
    have tk : ∀ {k : Nat}, k ≠ 0 → k ≠ 6 → tf2 c A (B 45 (tn e)) o c k = tf1 c A (B 45 (tn e)) o c k := fun a b => by unfold tf2; rw [wr_k _ _ _ _ b, wr_k _ _ _ _ a]
    have e152 : sp_M_complete_152 e (cm2 B e) (B 45 (tn e)) (iu (B 45 (tn e)) 31) (cmk B e) = if (q + 1) % 16 = 11 then (if (if cmk B e = 0 then B 56 (tn e) + 1 else 0 : Int32) = 2 then sp_M_forget (wr (wr (cm2 B e) 53 (tn e) (nI ((q + 1) % 16))) 56 (tn e) (if cmk B e = 0 then B 56 (tn e) + 1 else 0)) e else sp_M_complete_252 e (wr (wr (cm2 B e) 53 (tn e) (nI ((q + 1) % 16))) 56 (tn e) (if cmk B e = 0 then B 56 (tn e) + 1 else 0)) (B 45 (tn e)) (iu (B 45 (tn e)) 31)) else sp_M_complete_252 e (wr (cm2 B e) 53 (tn e) (nI ((q + 1) % 16))) (B 45 (tn e)) (iu (B 45 (tn e)) 31) := by
      unfold sp_M_complete_152
      rw [M (cc := 52) (by decide), M (cc := 53) (by decide), M (cc := 56) (by decide), k52, k53, pB, if_neg (by decide)]
      by_cases h9 : (q + 1) % 16 = 11
      · rw [if_pos (i11.mpr h9), if_pos h9]
      · rw [if_neg (fun h8 => h9 (i11.mp h8)), if_neg h9]
    rw [e152]
    have f6' : 6 ≤ f' := by omega
    by_cases h11' : (q + 1) % 16 = 11
    · rw [if_pos h11']
      have ho : ev = 0 ∧ o = 1 := by
        rcases hoe with h9 | h9
        · have := hpar.mp h9.1; omega
        · exact h9
      have t3 : tf3 c (tf2 c A (B 45 (tn e)) o) (iu (B 45 (tn e)) 31) = sp_O_judgeRoundWord c (tf2 c A (B 45 (tn e)) o) := by unfold tf3; rw [if_pos (by rw [t0]; exact i11.mpr h11')]
      have hw : (if cmk B e = 0 then B 56 (tn e) + 1 else 0 : Int32) = (if tf2 c A (B 45 (tn e)) o c 2 = 11 then 0 else tf2 c A (B 45 (tn e)) o c 3 + 1) := by
        rw [mk, tk (k := 2) (by decide) (by decide), tk (k := 3) (by decide) (by decide), eo 3 (by decide), k3]
        by_cases hx : tf1 c A (B 45 (tn e)) o c 2 = 11
        · rw [if_pos (show o ≠ 0 ∧ 6 ≤ f' ∧ tf1 c A (B 45 (tn e)) o c 2 = 11 from ⟨by rw [ho.2]; decide, f6', hx⟩), if_pos hx, if_neg (show ¬ (1 : Int32) = 0 by decide)]
        · rw [if_neg (show ¬ (o ≠ 0 ∧ 6 ≤ f' ∧ tf1 c A (B 45 (tn e)) o c 2 = 11) from fun h9 => hx h9.2.2), if_neg hx, if_pos rfl]
      rw [t3, hw]
      unfold sp_O_judgeRoundWord
      by_cases h22 : (if tf2 c A (B 45 (tn e)) o c 2 = 11 then 0 else tf2 c A (B 45 (tn e)) o c 3 + 1 : Int32) = 2
      · rw [if_pos h22, if_pos h22, h22]
        have u0 : sp_O_forgetNumber c (wr (tf2 c A (B 45 (tn e)) o) c 3 2) c 0 = -1 := by unfold sp_O_forgetNumber; simp [wr_r]
        have t4 : tf4 c (sp_O_forgetNumber c (wr (tf2 c A (B 45 (tn e)) o) c 3 2)) = sp_O_forgetNumber c (wr (tf2 c A (B 45 (tn e)) o) c 3 2) := by unfold tf4; rw [u0, if_neg (by decide)]
        rw [t4]
        have U : ∀ {k : Nat}, k ∉ ([0, 3, 4, 5, 9, 10] : List Nat) → sp_O_forgetNumber c (wr (tf2 c A (B 45 (tn e)) o) c 3 2) c k = tf2 c A (B 45 (tn e)) o c k := by
          intro k hk
          simp only [List.mem_cons, List.not_mem_nil, or_false, not_or] at hk
          unfold sp_O_forgetNumber
          simp [wr_r, hk]
        have u4 : sp_O_forgetNumber c (wr (tf2 c A (B 45 (tn e)) o) c 3 2) c 4 = 0 ∧ sp_O_forgetNumber c (wr (tf2 c A (B 45 (tn e)) o) c 3 2) c 5 = 0 ∧ sp_O_forgetNumber c (wr (tf2 c A (B 45 (tn e)) o) c 3 2) c 9 = 0 ∧ sp_O_forgetNumber c (wr (tf2 c A (B 45 (tn e)) o) c 3 2) c 10 = 0 := by unfold sp_O_forgetNumber; simp [wr_r]
        generalize hGm : wr (wr (cm2 B e) 53 (tn e) (nI ((q + 1) % 16))) 56 (tn e) 2 = Gm
        have V : ∀ {cc k : Nat}, cc ∉ ([52, 53, 56, 57, 60, 62] : List Nat) → sp_M_forget Gm e cc k = cm2 B e cc k := by
          intro cc k hk
          simp only [List.mem_cons, List.not_mem_nil, or_false, not_or] at hk
          rw [fr_M_forget (by simp [hk]), ← hGm]
          simp [wr_r, hk]
        have v52 : sp_M_forget Gm e 52 (tn e) = 0 ∧ sp_M_forget Gm e 57 (tn e) = 0 ∧ sp_M_forget Gm e 60 (tn e) = 0 ∧ sp_M_forget Gm e 62 (tn (2 * e)) = 0 ∧ sp_M_forget Gm e 62 (tn (2 * e + 1)) = 0 := by
          unfold sp_M_forget
          rcases he with rfl | rfl <;> simp [wr_r, tn_0, tn_1, tn_2, tn_3] <;> decide
        refine ⟨⟨by rw [U (by decide), tk (by decide) (by decide), eo 11 (by decide), V (by decide), m63 3 (by simp)]; exact h11, by rw [U (by decide), tk (by decide) (by decide), eo 12 (by decide), V (by decide), m63 4 (by simp)]; exact h12, by rw [u4.2.2.1, v52.2.2.2.1]; rfl, by rw [u4.2.2.2, v52.2.2.2.2]; rfl, by rw [U (by decide), tk (by decide) (by decide)]; exact b2, by rw [U (by decide), tk (by decide) (by decide)]; exact b8, ⟨f', hf', by rw [U (by decide), tk (by decide) (by decide)]; exact b1, fun h9 => absurd rfl h9, fun _ => ⟨by rw [V (by decide)]; exact c55, by rw [U (by decide), tk (by decide) (by decide), V (by decide)]; exact c54⟩⟩, Or.inl ⟨v52.1, u0, by rw [u4.1]; rfl, by rw [u4.2.1]; rfl, v52.2.1, v52.2.2.1, v52.2.2.2.1, v52.2.2.2.2⟩⟩, by rw [V (by decide)]; exact m630, by rw [V (by decide)]; exact m63 1 (by simp), by rw [V (by decide)]; exact m63 2 (by simp)⟩
      · rw [if_neg h22, if_neg h22]
        generalize (if tf2 c A (B 45 (tn e)) o c 2 = 11 then 0 else tf2 c A (B 45 (tn e)) o c 3 + 1 : Int32) = w3
        unfold sp_M_complete_252
        have x53 : wr (wr (cm2 B e) 53 (tn e) (nI ((q + 1) % 16))) 56 (tn e) w3 53 (tn e) = nI ((q + 1) % 16) := by simp [wr_r]
        rw [x53]
        have W : ∀ {cc k : Nat}, cc ∉ ([53, 56] : List Nat) → wr (wr (cm2 B e) 53 (tn e) (nI ((q + 1) % 16))) 56 (tn e) w3 cc k = cm2 B e cc k := by
          intro cc k hk
          simp only [List.mem_cons, List.not_mem_nil, or_false, not_or] at hk
          simp [wr_r, hk]
        have hx0 : (if nI ((q + 1) % 16) = 13 then (if iu (B 45 (tn e)) 31 = 0 then 1 else 0) else (if nI ((q + 1) % 16) = 15 then (if iu (B 45 (tn e)) 31 = 0 then 1 else 0) else 0) : Int32) = 0 := by
          rw [if_neg (fun h9 => by have := i13.mp h9; omega), if_neg (fun h9 => by have := i15.mp h9; omega)]
        rw [hx0]
        have K : ∀ {k : Nat}, k ≠ 3 → wr (tf2 c A (B 45 (tn e)) o) c 3 w3 c k = tf2 c A (B 45 (tn e)) o c k := fun a => wr_k _ _ _ _ a
        obtain ⟨g1, g2⟩ := O_known (A4 := wr (tf2 c A (B 45 (tn e)) o) c 3 w3) (G := wr (wr (cm2 B e) 53 (tn e) (nI ((q + 1) % 16))) 56 (tn e) w3) (x := 0) (T := T) he hq rfl hRH h8 hoe hpar hf' f6' (by rw [K (by decide)]; exact t0) (by rw [K (by decide), tk (by decide) (by decide)]; exact b1) (by rw [K (by decide), tk (by decide) (by decide)]; exact b2) (by rw [wr_same, wr_same]) (by rw [K (by decide), tk (by decide) (by decide), eo 4 (by decide)]) (by rw [K (by decide), tk (by decide) (by decide), eo 5 (by decide)]) (by rw [K (by decide), tk (by decide) (by decide), eo 7 (by decide)]) (by rw [K (by decide)]; exact t6) (by rw [K (by decide), tk (by decide) (by decide)]; exact e8) (by rw [K (by decide), tk (by decide) (by decide)]; exact b8) (by rw [K (by decide), tk (by decide) (by decide), eo 9 (by decide), W (by decide), M (by decide)]; exact h9) (by rw [K (by decide), tk (by decide) (by decide), eo 10 (by decide), W (by decide), M (by decide)]; exact h10) (by rw [K (by decide), tk (by decide) (by decide), eo 11 (by decide), W (by decide), m63 3 (by simp)]; exact h11) (by rw [fx4_s, if_pos rfl, K (by decide), tk (by decide) (by decide), eo 12 (by decide), W (by decide), m63 4 (by simp)]; exact h12) (by rw [W (by decide), M (by decide)]; exact k52) x53 (by rw [W (by decide), M (by decide)]; exact h47) (by rw [W (by decide), M (by decide)]) (by rw [W (by decide), M (by decide)]) (by rw [W (by decide), M (by decide)]) (by rw [W (by decide), M (by decide)]) (by rw [W (by decide), M (by decide)]) (by rw [W (by decide)]; exact c55) (by rw [K (by decide), tk (by decide) (by decide), W (by decide)]; exact c54)
        refine ⟨g1, ?_, ?_, ?_⟩
        · rw [g2 _ (Ne.symm (n0 3 (by simp))) (Ne.symm (n0 4 (by simp))), W (by decide)]; exact m630
        · rw [g2 _ (by rcases he with rfl | rfl <;> decide) (by rcases he with rfl | rfl <;> decide), W (by decide)]; exact m63 1 (by simp)
        · rw [g2 _ (by rcases he with rfl | rfl <;> decide) (by rcases he with rfl | rfl <;> decide), W (by decide)]; exact m63 2 (by simp)
    · rw [if_neg h11']
      have t3 : tf3 c (tf2 c A (B 45 (tn e)) o) (iu (B 45 (tn e)) 31) = if iu (B 45 (tn e)) 31 = 0 ∧ ((q + 1) % 16 = 13 ∨ (q + 1) % 16 = 15) then wr (tf2 c A (B 45 (tn e)) o) c 12 (A c 12 + 1) else tf2 c A (B 45 (tn e)) o := by
        unfold tf3
        rw [if_neg (by rw [t0]; exact fun h9 => h11' (i11.mp h9)), t0, tk (k := 12) (by decide) (by decide), eo 12 (by decide)]
        simp only [i13, i15]
      rw [t3]
      unfold sp_M_complete_252
      have x53 : wr (cm2 B e) 53 (tn e) (nI ((q + 1) % 16)) 53 (tn e) = nI ((q + 1) % 16) := wr_same _ _ _ _
      rw [x53]
      have hx0 : (if nI ((q + 1) % 16) = 13 then (if iu (B 45 (tn e)) 31 = 0 then 1 else 0) else (if nI ((q + 1) % 16) = 15 then (if iu (B 45 (tn e)) 31 = 0 then 1 else 0) else 0) : Int32) = if iu (B 45 (tn e)) 31 = 0 ∧ ((q + 1) % 16 = 13 ∨ (q + 1) % 16 = 15) then 1 else 0 := by
        simp only [i13, i15]
        by_cases y1 : (q + 1) % 16 = 13 <;> by_cases y2 : (q + 1) % 16 = 15 <;> by_cases y3 : iu (B 45 (tn e)) 31 = 0 <;> simp [y1, y2, y3]
      rw [hx0]
      have W : ∀ {cc k : Nat}, cc ∉ ([53] : List Nat) → wr (cm2 B e) 53 (tn e) (nI ((q + 1) % 16)) cc k = cm2 B e cc k := by
        intro cc k hk
        simp only [List.mem_cons, List.not_mem_nil, or_false, not_or] at hk
        exact wr_ck _ _ _ _ hk
      have K : ∀ {k : Nat}, k ≠ 12 → (if iu (B 45 (tn e)) 31 = 0 ∧ ((q + 1) % 16 = 13 ∨ (q + 1) % 16 = 15) then wr (tf2 c A (B 45 (tn e)) o) c 12 (A c 12 + 1) else tf2 c A (B 45 (tn e)) o) c k = tf2 c A (B 45 (tn e)) o c k := by
        intro k hk
        split
        · exact wr_k _ _ _ _ hk
        · rfl
      have K12 : (if iu (B 45 (tn e)) 31 = 0 ∧ ((q + 1) % 16 = 13 ∨ (q + 1) % 16 = 15) then wr (tf2 c A (B 45 (tn e)) o) c 12 (A c 12 + 1) else tf2 c A (B 45 (tn e)) o) c 12 = sp_M_fault (wr (cm2 B e) 53 (tn e) (nI ((q + 1) % 16))) e (if iu (B 45 (tn e)) 31 = 0 ∧ ((q + 1) % 16 = 13 ∨ (q + 1) % 16 = 15) then 1 else 0) 4 63 (tn (5 * e + 4)) := by
        rw [fx4_s, W (by decide), m63 4 (by simp), ← h12]
        by_cases y : iu (B 45 (tn e)) 31 = 0 ∧ ((q + 1) % 16 = 13 ∨ (q + 1) % 16 = 15)
        · rw [if_pos y, if_pos y, wr_same, if_neg (by decide)]
        · rw [if_neg y, if_neg y, if_pos rfl, tk (by decide) (by decide), eo 12 (by decide)]
      generalize (if iu (B 45 (tn e)) 31 = 0 ∧ ((q + 1) % 16 = 13 ∨ (q + 1) % 16 = 15) then wr (tf2 c A (B 45 (tn e)) o) c 12 (A c 12 + 1) else tf2 c A (B 45 (tn e)) o) = A4 at K K12 ⊢
      generalize (if iu (B 45 (tn e)) 31 = 0 ∧ ((q + 1) % 16 = 13 ∨ (q + 1) % 16 = 15) then 1 else 0 : Int32) = x4 at K12 ⊢
      obtain ⟨g1, g2⟩ := O_known (A4 := A4) (G := wr (cm2 B e) 53 (tn e) (nI ((q + 1) % 16))) (x := x4) (T := T) he hq rfl hRH h8 hoe hpar hf' f6' (by rw [K (by decide)]; exact t0) (by rw [K (by decide), tk (by decide) (by decide)]; exact b1) (by rw [K (by decide), tk (by decide) (by decide)]; exact b2) (by rw [K (by decide), tk (by decide) (by decide), eo 3 (by decide), W (by decide), M (by decide)]; exact k3) (by rw [K (by decide), tk (by decide) (by decide), eo 4 (by decide)]) (by rw [K (by decide), tk (by decide) (by decide), eo 5 (by decide)]) (by rw [K (by decide), tk (by decide) (by decide), eo 7 (by decide)]) (by rw [K (by decide)]; exact t6) (by rw [K (by decide), tk (by decide) (by decide)]; exact e8) (by rw [K (by decide), tk (by decide) (by decide)]; exact b8) (by rw [K (by decide), tk (by decide) (by decide), eo 9 (by decide), W (by decide), M (by decide)]; exact h9) (by rw [K (by decide), tk (by decide) (by decide), eo 10 (by decide), W (by decide), M (by decide)]; exact h10) (by rw [K (by decide), tk (by decide) (by decide), eo 11 (by decide), W (by decide), m63 3 (by simp)]; exact h11) K12 (by rw [W (by decide), M (by decide)]; exact k52) x53 (by rw [W (by decide), M (by decide)]; exact h47) (by rw [W (by decide), M (by decide)]) (by rw [W (by decide), M (by decide)]) (by rw [W (by decide), M (by decide)]) (by rw [W (by decide), M (by decide)]) (by rw [W (by decide), M (by decide)]) (by rw [W (by decide)]; exact c55) (by rw [K (by decide), tk (by decide) (by decide), W (by decide)]; exact c54)
      refine ⟨g1, ?_, ?_, ?_⟩
      · rw [g2 _ (Ne.symm (n0 3 (by simp))) (Ne.symm (n0 4 (by simp))), W (by decide)]; exact m630
      · rw [g2 _ (by rcases he with rfl | rfl <;> decide) (by rcases he with rfl | rfl <;> decide), W (by decide)]; exact m63 1 (by simp)
      · rw [g2 _ (by rcases he with rfl | rfl <;> decide) (by rcases he with rfl | rfl <;> decide), W (by decide)]; exact m63 2 (by simp)
