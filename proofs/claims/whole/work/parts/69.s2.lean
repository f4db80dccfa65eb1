theorem own_22 {e : Int32} (he : e = 0 ∨ e = 1) : own e 22 (tn (4 * e + 1)) = true ∧ own e 22 (tn (4 * e + 2)) = true ∧ own e 22 (tn (4 * e + 3)) = true := by rcases he with rfl | rfl <;> exact ⟨rfl, rfl, rfl⟩
theorem RS_congr {A A' B B' : Mem} {b : Nat} {e : Int32} (he : e = 0 ∨ e = 1) (h1 : A' (b + 1) = A (b + 1)) (h2 : A' (b + 2) = A (b + 2)) (hB : ∀ c k, c ∈ [22, 23, 24, 25, 26, 27] → own e c k = true → B' c k = B c k) (h : RS A B b e) : RS A' B' b e := by
  unfold RS at *
  obtain ⟨o1, o2, o3⟩ := own_22 he
  rw [h1, h2, hB 22 _ (by decide) o1, hB 22 _ (by decide) o2, hB 22 _ (by decide) o3, hB 23 _ (by decide) (own_23 he), hB 24 _ (by decide) (own_24 he), hB 25 _ (by decide) (own_25 he), hB 26 _ (by decide) (own_26 he), hB 27 _ (by decide) (own_27 he)]
  exact h
theorem sh_ix : ∀ i, i < 32 → (32 - (nI i + 1) : Int32) = nI (31 - i) ∧ (31 - nI i : Int32) = nI (31 - i) ∧ (nI i + 1 : Int32) = nI (i + 1) ∧ ((nI (i + 1) = (32 : Int32)) ↔ i = 31) ∧ ((nI i = (32 : Int32)) ↔ False) ∧ (nI i = 0 ↔ i = 0) := by decide +kernel
theorem nx_k : ∀ k, k < 16 → ((nI k + 1) &&& 15 : Int32) = nI ((k + 1) % 16) ∧ ((nI k + 1) - (nI k + 1) / 16 * 16 : Int32) = nI ((k + 1) % 16) ∧ ((nI ((k + 1) % 16) - nI ((k + 1) % 16) / 8 * 8 : Int32) = 0 ↔ k % 8 = 7) ∧ ((nI k = 7 ∨ nI k = 15) ↔ k % 8 = 7) := by decide +kernel
/-- the reference's next bit, by its reads -/
theorem nbT_rd {B : Mem} {e : Int32} {i k : Nat} (hi : i < 32) (hk : k < 16) (h25 : B 25 (tn e) = nI i) (h24 : B 24 (tn e) = nI k) :
    nbB B e = iu (B 23 (tn e)) (nI (31 - i)) &&& 1 ∧ nbT B e 25 (tn e) = nI ((i + 1) % 32) ∧ nbT B e 23 (tn e) = B 23 (tn e) ∧ nbT B e 24 (tn e) = nI (if i = 31 then (k + 1) % 16 else k) ∧
    nbT B e 26 (tn e) = (if i = 31 ∧ k % 8 = 7 then 0 else nbC B e) ∧ nbT B e 27 (tn e) = (if i = 31 ∧ k % 8 = 7 then nbC B e else B 27 (tn e)) := by
  obtain ⟨s1, s2, s3, s4, s5, s6⟩ := sh_ix i hi
  obtain ⟨k1, k2, k3, k4⟩ := nx_k k hk
  refine ⟨?_, ?_⟩
  · unfold nbB
    rw [h25, s2, iu_sr _ (by omega)]
  · unfold nbT
    have hN : nbN B e = nI ((k + 1) % 16) := by unfold nbN; rw [h24, k2]
    rw [hN, h25, s3]
    generalize nbC B e = C
    by_cases c : i = 31
    · rw [if_pos (s4.mpr c)]
      by_cases c2 : k % 8 = 7
      · rw [if_pos (k3.mpr c2)]
        simp only [wr_r]
        simp [c, c2, nI_0]
      · rw [if_neg (fun h => c2 (k3.mp h))]
        simp only [wr_r]
        simp [c, c2, nI_0]
    · rw [if_neg (fun h => c (s4.mp h))]
      have h6 : (i + 1) % 32 = i + 1 := by omega
      simp only [wr_r]
      simp [c, h6, h24]
theorem nbT_22 {B : Mem} {e : Int32} {x y : Nat} (hx : x ∉ [24, 25, 26, 27]) : nbT B e x y = B x y := by
  simp only [List.mem_cons, List.not_mem_nil, or_false, not_or] at hx
  obtain ⟨n1, n2, n3, n4⟩ := hx
  unfold nbT
  split
  · split
    · rw [wr_ck _ _ _ _ n3, wr_ck _ _ _ _ n4, wr_ck _ _ _ _ n1, wr_ck _ _ _ _ n2, wr_ck _ _ _ _ n2, wr_ck _ _ _ _ n3]
    · rw [wr_ck _ _ _ _ n1, wr_ck _ _ _ _ n2, wr_ck _ _ _ _ n2, wr_ck _ _ _ _ n3]
  · rw [wr_ck _ _ _ _ n2, wr_ck _ _ _ _ n3]
/-- the class's and the reference's next bit -/
theorem S_step {A B : Mem} {b : Nat} {e : Int32} {T : Nat} (he : e = 0 ∨ e = 1) (h : RS A B b e) (hR : RR A B (b + 8) e T) {md ev : Int32} (hO : RO A B (b + 9) e T md ev) :
    (cS b A).1 = (sp_M_nextBit B e).1 ∧ ((cS b A).1 = 0 ∨ (cS b A).1 = 1) ∧ RS (cS b A).2 (sp_M_nextBit B e).2 b e := by
  obtain ⟨l1, l2, l3, i, k, hi, hk, h25, h24, hz, hp⟩ := h
  obtain ⟨s1, s2, s3, s4, s5, s6⟩ := sh_ix i hi
  obtain ⟨k1, k2, k3, k4⟩ := nx_k k hk
  obtain ⟨-, e2, e3⟩ := sl_ev k hk
  rw [nb_eq]
  by_cases c : i = 0
  · subst c
    obtain ⟨z3, z1, z4, z5⟩ := hz rfl
    have hw := wd_eq he hk z1 h24 z5 l1 l2 l3 hR.1 hR.2.1 hO.2.2.1 hO.2.2.2.1
    rw [if_pos (show B 25 (tn e) = 0 from h25.trans nI_0), mbF_eq, ← hw]
    have hcS : cS b A = sp_S_nextBit (b + 1) (sp_S_beginFrame (b + 1) (b + 8) A) := by
      unfold cS sp_S_isBetweenFrames
      rw [z3, if_neg (by decide)]
    obtain ⟨f1, f2, f3, f4, f5⟩ := bF_rd (b + 1) (b + 8) A
    have f22 : ∀ y, sp_S_beginFrame (b + 1) (b + 8) A (b + 2) y = A (b + 2) y := fun y => by rw [fr_S_beginFrame (by simp)]
    have hB1 : ∀ x y, x ≠ 23 → wr B 23 (tn e) (cWd (b + 1) (b + 8) A) x y = B x y := fun x y hx => wr_ck _ _ _ _ hx
    have hB23 : wr B 23 (tn e) (cWd (b + 1) (b + 8) A) 23 (tn e) = cWd (b + 1) (b + 8) A := wr_same _ _ _ _
    have hK : cKd (b + 1) (b + 8) A = ck (cWd (b + 1) (b + 8) A) 31 (nbC (wr B 23 (tn e) (cWd (b + 1) (b + 8) A)) e) := by
      unfold cKd nbC nbB
      rw [hB1 26 _ (by decide), hB1 25 _ (by decide), hB1 24 _ (by decide), hB23, h25, h24, z1, z4, if_pos (show nI 0 = 0 from nI_0), s2, iu_sr _ (by omega), show nI (31 - 0) = 31 from rfl, iu_31]
      by_cases hp9 : k % 2 = 0
      · rw [if_pos (e2.mpr hp9), if_pos (e3.mpr hp9)]
      · rw [if_neg (fun h => hp9 (e2.mp h)), if_neg (fun h => hp9 (e3.mp h))]
    rw [hcS]
    clear hw hcS
    revert f2 hB1 hB23 hK
    generalize cWd (b + 1) (b + 8) A = w
    intro f2 hB1 hB23 hK
    rw [hK] at f4 f5
    revert f1 f2 f3 f4 f5 f22
    generalize sp_S_beginFrame (b + 1) (b + 8) A = A1
    revert hB1 hB23
    generalize wr B 23 (tn e) w = B1
    intro hB1 hB23 f1 f3 f22 f5 f4 f2
    obtain ⟨t1, t2, t3, t4, t5, t6⟩ := nbT_rd (B := B1) (e := e) hi hk (by rw [hB1 _ _ (by decide)]; exact h25) (by rw [hB1 _ _ (by decide)]; exact h24)
    have hb : (sp_S_nextBit (b + 1) A1).1 = iu w (nI 31) &&& 1 := by
      unfold sp_S_nextBit
      show iu (A1 (b + 1) 2) (32 - (A1 (b + 1) 3 + 1)) &&& 1 = _
      rw [f2, f3]; rfl
    refine ⟨?_, ?_, ?_⟩
    · rw [hb]
      show _ = nbB B1 e
      rw [t1, hB23]
    · rw [hb]; exact b01 _
    · show RS (wr A1 (b + 1) 3 (A1 (b + 1) 3 + 1)) (nbT B1 e) b e
      rw [if_neg (by omega)] at t4
      rw [if_neg (by omega)] at t5 t6
      have n2 : b + 2 ≠ b + 1 := by omega
      refine ⟨?_, ?_, ?_, 1, k, by omega, hk, t2, t4, fun h9 => absurd h9 (by decide), fun _ => ⟨?_, ?_, ?_, fun h7 => ⟨?_, ?_⟩, fun h7 => ⟨?_, ?_⟩⟩⟩
      · rw [wr_ck _ _ _ _ n2, f22, nbT_22 (by decide), hB1 _ _ (by decide)]; exact l1
      · rw [wr_ck _ _ _ _ n2, f22, nbT_22 (by decide), hB1 _ _ (by decide)]; exact l2
      · rw [wr_ck _ _ _ _ n2, f22, nbT_22 (by decide), hB1 _ _ (by decide)]; exact l3
      · rw [wr_same, f3]; rfl
      · rw [wr_k _ _ _ _ (by decide), f2, t3, hB23]
      · rw [wr_k _ _ _ _ (by decide), f1, z1, k1]
      · rw [wr_k _ _ _ _ (by decide), f5, z1, if_pos (k4.mpr h7), t3, t5, hB23]
      · rw [wr_k _ _ _ _ (by decide), f4, z1, if_pos (k4.mpr h7)]
      · rw [wr_k _ _ _ _ (by decide), f4, z1, if_neg (fun h => h7 (k4.mp h)), t3, t5, hB23]
      · rw [wr_k _ _ _ _ (by decide), f5, z1, if_neg (fun h => h7 (k4.mp h)), t6, hB1 _ _ (by decide)]; exact z5
  · obtain ⟨p3, p2, p1, p5, p4⟩ := hp c
    rw [if_neg (show ¬ B 25 (tn e) = 0 from fun h => c (s6.mp (h25.symm.trans h)))]
    have hcS : cS b A = sp_S_nextBit (b + 1) A := by
      unfold cS sp_S_isBetweenFrames
      rw [p3, if_neg (fun h => s5.mp h), if_pos rfl]
    rw [hcS]
    obtain ⟨t1, t2, t3, t4, t5, t6⟩ := nbT_rd (B := B) (e := e) hi hk h25 h24
    have hC : nbC B e = wf (B 26 (tn e)) (iu (B 23 (tn e)) (nI (31 - i)) &&& 1) := by
      unfold nbC
      rw [if_neg (show ¬ B 25 (tn e) = 0 from fun h => c (s6.mp (h25.symm.trans h))), t1]
    have hck : ck (B 23 (tn e)) (32 - i) (B 26 (tn e)) = ck (B 23 (tn e)) (31 - i) (nbC B e) := by
      rw [hC, show 32 - i = (31 - i) + 1 by omega]
      rfl
    rw [hck] at p4 p5
    have hb : (sp_S_nextBit (b + 1) A).1 = iu (B 23 (tn e)) (nI (31 - i)) &&& 1 := by
      unfold sp_S_nextBit
      show iu (A (b + 1) 2) (32 - (A (b + 1) 3 + 1)) &&& 1 = _
      rw [p2, p3, s1]
    refine ⟨?_, ?_, ?_⟩
    · rw [hb]
      show _ = nbB B e
      rw [t1]
    · rw [hb]; exact b01 _
    · show RS (wr A (b + 1) 3 (A (b + 1) 3 + 1)) (nbT B e) b e
      have n2 : b + 2 ≠ b + 1 := by omega
      refine ⟨?_, ?_, ?_, (i + 1) % 32, (if i = 31 then (k + 1) % 16 else k), by omega, by split <;> omega, t2, t4, fun h9 => ?_, fun h9 => ?_⟩
      · rw [wr_ck _ _ _ _ n2, nbT_22 (by decide)]; exact l1
      · rw [wr_ck _ _ _ _ n2, nbT_22 (by decide)]; exact l2
      · rw [wr_ck _ _ _ _ n2, nbT_22 (by decide)]; exact l3
      · have c1 : i = 31 := by omega
        subst c1
        have hck0 : ∀ x, ck (B 23 (tn e)) (31 - 31) x = x := fun x => rfl
        rw [wr_same, wr_k _ _ _ _ (show 1 ≠ 3 by decide), wr_k _ _ _ _ (show 4 ≠ 3 by decide), wr_k _ _ _ _ (show 5 ≠ 3 by decide), p3, p1, if_pos rfl, t5, t6]
        rw [hck0] at p4 p5
        refine ⟨rfl, rfl, ?_, ?_⟩
        · by_cases h7 : k % 8 = 7
          · rw [if_pos ⟨rfl, h7⟩]; exact (p5 h7).2
          · rw [if_neg (fun h => h7 h.2)]; exact (p4 h7).1
        · by_cases h7 : k % 8 = 7
          · rw [if_pos ⟨rfl, h7⟩]; exact (p5 h7).1
          · rw [if_neg (fun h => h7 h.2)]; exact (p4 h7).2
      · have c1 : i ≠ 31 := by intro h; subst h; exact h9 rfl
        rw [if_neg (fun h => c1 h.1)] at t5 t6
        have c2 : (i + 1) % 32 = i + 1 := by omega
        rw [wr_same, wr_k _ _ _ _ (show 1 ≠ 3 by decide), wr_k _ _ _ _ (show 2 ≠ 3 by decide), wr_k _ _ _ _ (show 4 ≠ 3 by decide), wr_k _ _ _ _ (show 5 ≠ 3 by decide), p3, p1, p2, if_neg c1, t3, t5, t6, c2, s3]
        rw [show 31 - i = 32 - (i + 1) by omega] at p4 p5
        exact ⟨rfl, rfl, rfl, p5, p4⟩
