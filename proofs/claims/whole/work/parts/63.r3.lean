theorem sch_c {B : Mem} {e : Int32} {cc k : Nat} (h : cc ∉ ([43, 44, 52, 57, 60, 62] : List Nat)) : sp_M_search B e cc k = B cc k := by rw [fr_M_search h]
theorem sch_43 {B : Mem} {e : Int32} : sp_M_search B e 43 (tn e) = 0 := by
  unfold sp_M_search
  rw [fr_M_forget (by decide), wr_ck _ _ _ _ (by decide), wr_same]
theorem sch_44 {B : Mem} {e : Int32} : sp_M_search B e 44 (tn e) = 0 := by
  unfold sp_M_search
  rw [fr_M_forget (by decide), wr_same]
/-- the search begins again -/
theorem RR_srch {A A1 B B0 : Mem} {c : Nat} {e a : Int32} {T f : Nat} (hT : T < 2000000) (hf : f ≤ T)
    (a1 : A1 c 1 = 0) (a3 : A1 c 3 = 0) (a2 : A1 c 2 = B0 45 (tn e)) (a6 : A1 c 6 = B0 50 (tn e)) (a8 : A1 c 8 = B0 63 (tn (5 * e + 2))) (a9 : zb (A1 c 9) = B0 51 (tn e)) (a7 : A1 c 7 = nI f) (b63 : B0 63 (tn (5 * e)) = nI f) (b49 : B0 49 (tn e) = (if f = 0 then 0 else 1)) (b47 : B0 47 (tn e) = 0 ∨ B0 47 (tn e) = 1) : RR A1 (sp_M_search B0 e) c e (T + 1) := by
  refine ⟨by rw [a1, sch_43], Or.inl sch_43, by rw [sch_c (by decide)]; exact a2, by rw [sch_c (by decide)]; exact a6, by rw [sch_c (by decide)]; exact a8, by rw [sch_c (by decide)]; exact a9, ⟨f, by omega, a7, by rw [sch_c (by decide)]; exact b63, by rw [sch_c (by decide)]; exact b49⟩, by rw [sch_c (by decide)]; exact b47, ⟨0, by omega, a3, fun _ => sch_44, fun _ => by decide, fun h9 => ?_⟩, fun h9 => ?_⟩
  · rw [sch_43] at h9; exact absurd h9 (by decide)
  · rw [sch_43] at h9; exact absurd h9 (by decide)
set_option maxHeartbeats 2000000 in
theorem R_step1 {A B : Mem} {c : Nat} {e a : Int32} {T : Nat} (he : e = 0 ∨ e = 1) (hT : T < 2000000) (h : RR A B c e T) (ho : RO A B (c + 1) e T (B 43 (tn e)) (B 47 (tn e))) (h0 : B 43 (tn e) = 1) :
    RR (sp_R_takeBit c A a) (sp_M_make B e a) c e (T + 1) ∧ RO (sp_R_takeBit c A a) (sp_M_make B e a) (c + 1) e (T + 1) (sp_M_make B e a 43 (tn e)) (sp_M_make B e a 47 (tn e)) ∧ sp_M_make B e a 63 (tn (5 * e + 1)) = B 63 (tn (5 * e + 1)) := by
  have hst := fun hx => RR_stay (a := a) hT h (by rw [h0]; decide) hx
  have ho' := RO_r (a := a) ho
  obtain ⟨r1, rm, r2, r6, r8, r9, ⟨f, hf, f7, f63, f49⟩, r47, ⟨n, hn, n3', n44, n1, n2⟩, r4⟩ := h
  have hm44 := n44 (by rw [h0]; decide)
  have hn64 := n1 h0
  have eA : sp_R_takeBit c A a = sp_R_tryWord c (rA A c a) a := by unfold sp_R_takeBit; rw [r1, h0, if_neg (by decide), if_pos rfl]; rfl
  have e44 : (if 100 ≤ B 44 (tn e) then B 44 (tn e) else B 44 (tn e) + 1 : Int32) = nI (n + 1) := by rw [hm44, sn_step _ (by omega)]; congr 1; omega
  have eB : sp_M_make B e a = if nI (n + 1) = 26 then (if a = 0 then sp_M_search (rB B e a) e else (if nI (n + 1) = 64 then (if sp_M_isWord (rB B e a) e = 0 then sp_M_search (rB B e a) e else wr (wr (wr (wr (wr (wr (rB B e a) 43 (tn e) 2) 46 (tn e) 8) 47 (tn e) (zb 1)) 48 (tn e) 0) 55 (tn e) 0) 54 (tn e) 0) else rB B e a)) else (if nI (n + 1) = 64 then (if sp_M_isWord (rB B e a) e = 0 then sp_M_search (rB B e a) e else wr (wr (wr (wr (wr (wr (rB B e a) 43 (tn e) 2) 46 (tn e) 8) 47 (tn e) (zb 1)) 48 (tn e) 0) 55 (tn e) 0) 54 (tn e) 0) else rB B e a) := by
    unfold sp_M_make
    rw [h0, if_neg (by decide), if_neg (by decide)]
    unfold rB
    rw [e44]
  have hw : sp_R_wordStands c (rA A c a) = sp_M_isWord (rB B e a) e := words_eq (by rw [rA_2, rB_45, r2])
  have m1 : ∀ cc k, cc ≠ 44 → cc ≠ 45 → rB B e a cc k = B cc k := fun cc k a b => rB_c ⟨a, b⟩
  have X : ∀ {k}, k ≠ 2 → k ≠ 3 → rA A c a c k = A c k := fun a b => rA_c (Or.inr ⟨a, b⟩)
  have i26 : (nI (n + 1) = 26) ↔ n + 1 = 26 := nI_eq (b := 26) (by omega) (by omega)
  have i64 : (nI (n + 1) = 64) ↔ n + 1 = 64 := nI_eq (b := 64) (by omega) (by omega)
  -- the three ends
  have endS : RR (sp_R_enter c (rA A c a) 0) (sp_M_search (rB B e a) e) c e (T + 1) ∧ RO (sp_R_enter c (rA A c a) 0) (sp_M_search (rB B e a) e) (c + 1) e (T + 1) (sp_M_search (rB B e a) e 43 (tn e)) (sp_M_search (rB B e a) e 47 (tn e)) ∧ sp_M_search (rB B e a) e 63 (tn (5 * e + 1)) = B 63 (tn (5 * e + 1)) := by
    have Y : ∀ {k}, k ≠ 1 → k ≠ 3 → sp_R_enter c (rA A c a) 0 c k = rA A c a c k := fun p q => by unfold sp_R_enter; rw [wr_k _ _ _ _ q, wr_k _ _ _ _ p]
    refine ⟨RR_srch (A := A) (B := B) (a := a) hT hf (by unfold sp_R_enter; simp [wr_r]) (by unfold sp_R_enter; simp [wr_r]) ?_ ?_ ?_ ?_ ?_ ?_ ?_ ?_, ?_, ?_⟩
    · rw [Y (by decide) (by decide), rA_2, rB_45, r2]
    · rw [Y (by decide) (by decide), X (by decide) (by decide), m1 _ _ (by decide) (by decide)]; exact r6
    · rw [Y (by decide) (by decide), X (by decide) (by decide), m1 _ _ (by decide) (by decide)]; exact r8
    · rw [Y (by decide) (by decide), X (by decide) (by decide), m1 _ _ (by decide) (by decide)]; exact r9
    · rw [Y (by decide) (by decide), X (by decide) (by decide)]; exact f7
    · rw [m1 _ _ (by decide) (by decide)]; exact f63
    · rw [m1 _ _ (by decide) (by decide)]; exact f49
    · rw [m1 _ _ (by decide) (by decide)]; exact r47
    · rw [sch_43]
      rw [h0] at ho'
      unfold sp_M_search
      refine RO_forget he (by decide) (RO_congr (A := rA A c a) (B := rB B e a) (fun k => ?_) (fun cc k hc => ?_) ?_ ?_ (RO_unk (by decide) (by decide) ho'))
      · unfold sp_R_enter; rw [wr_ck _ _ _ _ (by omega), wr_ck _ _ _ _ (by omega)]
      · rw [wr_ck _ _ _ _ (by simp only [List.mem_cons, List.not_mem_nil, or_false] at hc; omega), wr_ck _ _ _ _ (by simp only [List.mem_cons, List.not_mem_nil, or_false] at hc; omega)]
      · rw [wr_ck _ _ _ _ (by decide), wr_ck _ _ _ _ (by decide)]
      · rw [wr_ck _ _ _ _ (by decide), wr_ck _ _ _ _ (by decide)]
    · rw [sch_c (by decide), m1 _ _ (by decide) (by decide)]
  have endN : n + 1 ≠ 64 → RR (rA A c a) (rB B e a) c e (T + 1) ∧ RO (rA A c a) (rB B e a) (c + 1) e (T + 1) (rB B e a 43 (tn e)) (rB B e a 47 (tn e)) ∧ rB B e a 63 (tn (5 * e + 1)) = B 63 (tn (5 * e + 1)) := by
    intro hne
    refine ⟨hst (fun m hm hmT _ => ?_), ?_, m1 _ _ (by decide) (by decide)⟩
    · have := nI_inj (by omega) (by omega) (hm.symm.trans n3'); omega
    · rw [m1 43 _ (by decide) (by decide), m1 47 _ (by decide) (by decide)]; exact ho'
  rw [eA, eB]
  unfold sp_R_tryWord
  rw [rA_3, n3', nI_1, hw]
  by_cases c26 : n + 1 = 26
  · rw [if_pos (i26.mpr c26), if_pos (i26.mpr c26)]
    by_cases ca : a = 0
    · rw [if_pos ca, if_pos ca]; exact endS
    · rw [if_neg ca, if_neg ca, if_neg (fun h9 => by have := i64.mp h9; omega), if_neg (fun h9 => by have := i64.mp h9; omega)]
      exact endN (by omega)
  · rw [if_neg (fun h9 => c26 (i26.mp h9)), if_neg (fun h9 => c26 (i26.mp h9))]
    by_cases c64 : n + 1 = 64
    · rw [if_pos (i64.mpr c64), if_pos (i64.mpr c64)]
      by_cases cw : sp_M_isWord (rB B e a) e = 0
      · rw [if_pos cw, if_pos cw]; exact endS
      · rw [if_neg cw, if_neg cw]
        generalize hZ : wr (wr (wr (wr (wr (wr (rB B e a) 43 (tn e) 2) 46 (tn e) 8) 47 (tn e) (zb 1)) 48 (tn e) 0) 55 (tn e) 0) 54 (tn e) 0 = Z
        have z43 : Z 43 (tn e) = 2 := by rw [← hZ]; simp [wr_r]
        have z46 : Z 46 (tn e) = 8 := by rw [← hZ]; simp [wr_r]
        have z47 : Z 47 (tn e) = 1 := by rw [← hZ]; simp [wr_r]; rfl
        have z48 : Z 48 (tn e) = 0 := by rw [← hZ]; simp [wr_r]
        have z55 : Z 55 (tn e) = 0 := by rw [← hZ]; simp [wr_r]
        have z54 : Z 54 (tn e) = 0 := by rw [← hZ]; simp [wr_r]
        have zc : ∀ {cc k : Nat}, cc ∉ ([43, 46, 47, 48, 54, 55] : List Nat) → Z cc k = rB B e a cc k := by
          intro cc k hc
          simp only [List.mem_cons, List.not_mem_nil, or_false, not_or] at hc
          rw [← hZ]; simp [wr_r, hc]
        have hal : ∀ {k}, k ≠ 1 → k ≠ 3 → k ≠ 4 → k ≠ 5 → sp_R_align c (rA A c a) c k = rA A c a c k := fun p q r s => by unfold sp_R_align sp_R_enter; rw [wr_k _ _ _ _ s, wr_k _ _ _ _ r, wr_k _ _ _ _ q, wr_k _ _ _ _ q, wr_k _ _ _ _ p]
        refine ⟨⟨by rw [z43]; unfold sp_R_align sp_R_enter; simp [wr_r], Or.inr (Or.inr z43), ?_, ?_, ?_, ?_, ⟨f, by omega, ?_, ?_, ?_⟩, Or.inr z47, ⟨8, by omega, ?_, fun h9 => absurd z43 h9, fun h9 => ?_, fun _ => ⟨by decide, z46⟩⟩, fun _ => ⟨Or.inl ⟨?_, z47⟩, ?_⟩⟩, ?_, ?_⟩
        · rw [hal (by decide) (by decide) (by decide) (by decide), zc (by decide), rA_2, rB_45, r2]
        · rw [hal (by decide) (by decide) (by decide) (by decide), zc (by decide), X (by decide) (by decide), m1 _ _ (by decide) (by decide)]; exact r6
        · rw [hal (by decide) (by decide) (by decide) (by decide), zc (by decide), X (by decide) (by decide), m1 _ _ (by decide) (by decide)]; exact r8
        · rw [hal (by decide) (by decide) (by decide) (by decide), zc (by decide), X (by decide) (by decide), m1 _ _ (by decide) (by decide)]; exact r9
        · rw [hal (by decide) (by decide) (by decide) (by decide), X (by decide) (by decide)]; exact f7
        · rw [zc (by decide), m1 _ _ (by decide) (by decide)]; exact f63
        · rw [zc (by decide), m1 _ _ (by decide) (by decide)]; exact f49
        · unfold sp_R_align sp_R_enter; simp [wr_r]; rfl
        · rw [z43] at h9; exact absurd h9 (by decide)
        · unfold sp_R_align sp_R_enter; simp [wr_r]; rfl
        · rw [z48]; unfold sp_R_align sp_R_enter; simp [wr_r]
        · rw [z43, z47]
          rw [h0] at ho'
          obtain ⟨q1, q2, q3, q4, q5, q6, ⟨g, hg, g1, g2, -⟩, q8⟩ := ho'
          have K : ∀ k, sp_R_align c (rA A c a) (c + 1) k = rA A c a (c + 1) k := fun k => by unfold sp_R_align sp_R_enter; rw [wr_ck _ _ _ _ (by omega), wr_ck _ _ _ _ (by omega), wr_ck _ _ _ _ (by omega), wr_ck _ _ _ _ (by omega), wr_ck _ _ _ _ (by omega)]
          have g0 := g2 (by decide)
          refine ⟨by rw [K, zc (by decide)]; exact q1, by rw [K, zc (by decide)]; exact q2, by rw [K, zc (by decide)]; exact q3, by rw [K, zc (by decide)]; exact q4, by rw [K]; exact q5, by rw [K]; exact q6, ⟨g, by omega, by rw [K]; exact g1, fun h9 => absurd rfl h9, fun _ => ⟨by rw [z55, g0]; rfl, ?_⟩⟩, ?_⟩
          · rw [z54, g0]; exact ⟨fun i hi => absurd hi (by omega), fun i _ => b_0 i⟩
          · rcases q8 with ⟨p1, p2, p3, p4, p5, p6, p7, p8⟩ | q8
            · exact Or.inl ⟨by rw [zc (by decide)]; exact p1, by rw [K]; exact p2, by rw [K]; exact p3, by rw [K]; exact p4, by rw [zc (by decide)]; exact p5, by rw [zc (by decide)]; exact p6, by rw [zc (by decide)]; exact p7, by rw [zc (by decide)]; exact p8⟩
            · exact absurd q8.2.1 (by decide)
        · rw [zc (by decide), m1 _ _ (by decide) (by decide)]
    · rw [if_neg (fun h9 => c64 (i64.mp h9)), if_neg (fun h9 => c64 (i64.mp h9))]
      exact endN c64
