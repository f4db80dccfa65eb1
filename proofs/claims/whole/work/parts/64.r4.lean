theorem cmp_c {B : Mem} {e : Int32} {cc k : Nat} (h : cc ∉ ([52, 53, 56, 57, 58, 59, 60, 61, 62, 63] : List Nat)) : sp_M_complete B e cc k = cm2 B e cc k := by rw [cmp_eq, fr_M_complete_152 h]
theorem cm2_49 {B : Mem} {e : Int32} : cm2 B e 49 (tn e) = 1 ∧ cm2 B e 50 (tn e) = B 45 (tn e) ∧ cm2 B e 51 (tn e) = if B 47 (tn e) = 0 then (if ((B 45 (tn e) >>> ((29 : Int32) &&& 31)) &&& (1 : Int32)) = 1 then 1 else 0) else B 51 (tn e) := by
  have z : ∀ p : Prop, ∀ [Decidable p], zb (if p then 1 else 0) = if p then 1 else 0 := by intro p _; by_cases hp : p <;> simp [hp] <;> rfl
  unfold cm2 cm1 sp_M_fault
  by_cases h : B 47 (tn e) = 0
  · simp [h, wr_r, z]; rfl
  · simp [h, wr_r]; rfl
theorem tkf_c {A : Mem} {c : Nat} {w o : Int32} {k : Nat} : sp_O_takeFrame (c + 1) A w o c k = A c k := by rw [fr_O_takeFrame (by simp)]
set_option maxHeartbeats 4000000 in
theorem R_step2 {A B : Mem} {c : Nat} {e a : Int32} {T : Nat} (he : e = 0 ∨ e = 1) (hT : T < 2000000) (h : RR A B c e T) (ho : RO A B (c + 1) e T (B 43 (tn e)) (B 47 (tn e))) (h0 : B 43 (tn e) = 2) :
    RR (sp_R_takeBit c A a) (sp_M_make B e a) c e (T + 1) ∧ RO (sp_R_takeBit c A a) (sp_M_make B e a) (c + 1) e (T + 1) (sp_M_make B e a 43 (tn e)) (sp_M_make B e a 47 (tn e)) ∧ sp_M_make B e a 63 (tn (5 * e + 1)) = B 63 (tn (5 * e + 1)) := by
  have ho' := RO_r (a := a) ho
  rw [h0] at ho'
  obtain ⟨r1, rm, r2, r6, r8, r9, ⟨f, hf, f7, f63, f49⟩, r47, ⟨n, hn, n3', n44, n1, n2⟩, r4⟩ := h
  obtain ⟨hn32, h46⟩ := n2 h0
  obtain ⟨hoe, h5⟩ := r4 h0
  have m1 : ∀ cc k, cc ≠ 44 → cc ≠ 45 → rB B e a cc k = B cc k := fun cc k a b => rB_c ⟨a, b⟩
  have X : ∀ {k}, k ≠ 2 → k ≠ 3 → rA A c a c k = A c k := fun a b => rA_c (Or.inr ⟨a, b⟩)
  have hw : sp_R_wordStands c (rA A c a) = sp_M_isWord (rB B e a) e := words_eq (by rw [rA_2, rB_45, r2])
  have i8 : (nI (n + 1) = 8) ↔ n + 1 = 8 := nI_eq (b := 8) (by omega) (by omega)
  have i32 : (nI (n + 1) = 32) ↔ n + 1 = 32 := nI_eq (b := 32) (by omega) (by omega)
  have eA : sp_R_takeBit c A a = if n + 1 = 32 then sp_R_complete c (rA A c a) else (if n + 1 = 8 then (if zb (A c 4) = 0 then sp_R_lookAtWord c (rA A c a) else rA A c a) else rA A c a) := by
    unfold sp_R_takeBit
    rw [r1, h0, if_neg (by decide), if_neg (by decide), n3', nI_1]
    simp only [i8, i32]
    rw [← nI_1, ← n3']
    rfl
  have b46 : rB B e a 46 (tn e) = nI n := by rw [m1 _ _ (by decide) (by decide)]; exact h46
  have b47 : rB B e a 47 (tn e) = B 47 (tn e) := m1 _ _ (by decide) (by decide)
  have b48 : rB B e a 48 (tn e) = B 48 (tn e) := m1 _ _ (by decide) (by decide)
  have isw : ∀ v, sp_M_isWord (wr (rB B e a) 46 (tn e) v) e = sp_M_isWord (rB B e a) e := fun v => by unfold sp_M_isWord; rw [wr_ck _ _ _ _ (by decide)]
  have eB : sp_M_make B e a = sp_M_frameBit (rB B e a) e := by unfold sp_M_make; rw [h0, if_pos rfl]; rfl
  have mB : sp_M_frameBit (rB B e a) e = if n + 1 = 32 then wr (wr (sp_M_complete (wr (rB B e a) 46 (tn e) (nI (n + 1))) e) 46 (tn e) 0) 47 (tn e) (zb (if (sp_M_complete (wr (rB B e a) 46 (tn e) (nI (n + 1))) e) 47 (tn e) = 0 then 1 else 0)) else (if n + 1 = 8 then (if B 47 (tn e) = 0 then wr (rB B e a) 46 (tn e) (nI (n + 1)) else (if (if sp_M_isWord (rB B e a) e = 0 then B 48 (tn e) + 1 else 0 : Int32) = 3 then sp_M_search (sp_M_fault (wr (wr (rB B e a) 46 (tn e) (nI (n + 1))) 48 (tn e) (if sp_M_isWord (rB B e a) e = 0 then B 48 (tn e) + 1 else 0)) e 1 2) e else wr (wr (rB B e a) 46 (tn e) (nI (n + 1))) 48 (tn e) (if sp_M_isWord (rB B e a) e = 0 then B 48 (tn e) + 1 else 0))) else wr (rB B e a) 46 (tn e) (nI (n + 1))) := by
    unfold sp_M_frameBit
    rw [b46, nI_1, b47, b48, isw]
    simp only [i8, i32]
    by_cases c8 : n + 1 = 8
    · have c32 : ¬ n + 1 = 32 := by omega
      simp [c8]
    · by_cases c32 : n + 1 = 32
      · simp [c32]
      · simp [c8, c32]
  -- a bit that is only counted
  have endN : n + 1 ≠ 32 → RR (rA A c a) (wr (rB B e a) 46 (tn e) (nI (n + 1))) c e (T + 1) ∧ RO (rA A c a) (wr (rB B e a) 46 (tn e) (nI (n + 1))) (c + 1) e (T + 1) (wr (rB B e a) 46 (tn e) (nI (n + 1)) 43 (tn e)) (wr (rB B e a) 46 (tn e) (nI (n + 1)) 47 (tn e)) ∧ wr (rB B e a) 46 (tn e) (nI (n + 1)) 63 (tn (5 * e + 1)) = B 63 (tn (5 * e + 1)) := by
    intro hne
    have W : ∀ {cc k}, cc ≠ 44 → cc ≠ 45 → cc ≠ 46 → wr (rB B e a) 46 (tn e) (nI (n + 1)) cc k = B cc k := fun p q r => by rw [wr_ck _ _ _ _ r, m1 _ _ p q]
    refine ⟨⟨?_, ?_, ?_, ?_, ?_, ?_, ⟨f, by omega, ?_, ?_, ?_⟩, ?_, ⟨n + 1, by omega, ?_, ?_, ?_, ?_⟩, ?_⟩, ?_, W (by decide) (by decide) (by decide)⟩
    · rw [X (by decide) (by decide), W (by decide) (by decide) (by decide)]; exact r1
    · rw [W (by decide) (by decide) (by decide)]; exact rm
    · rw [rA_2, wr_ck _ _ _ _ (by decide), rB_45, r2]
    · rw [X (by decide) (by decide), W (by decide) (by decide) (by decide)]; exact r6
    · rw [X (by decide) (by decide), W (by decide) (by decide) (by decide)]; exact r8
    · rw [X (by decide) (by decide), W (by decide) (by decide) (by decide)]; exact r9
    · rw [X (by decide) (by decide)]; exact f7
    · rw [W (by decide) (by decide) (by decide)]; exact f63
    · rw [W (by decide) (by decide) (by decide)]; exact f49
    · rw [W (by decide) (by decide) (by decide)]; exact r47
    · rw [rA_3, n3', nI_1]
    · intro h9; rw [W (by decide) (by decide) (by decide)] at h9; exact absurd h0 h9
    · intro h9; rw [W (by decide) (by decide) (by decide), h0] at h9; exact absurd h9 (by decide)
    · intro _; exact ⟨by omega, wr_same _ _ _ _⟩
    · intro _
      rw [X (by decide) (by decide), X (by decide) (by decide), W (by decide) (by decide) (by decide), W (by decide) (by decide) (by decide)]
      exact ⟨hoe, h5⟩
    · rw [W (by decide) (by decide) (by decide), W (by decide) (by decide) (by decide), h0]
      exact RO_congr (fun _ => rfl) (fun cc k hc => wr_ck _ _ _ _ (by simp only [List.mem_cons, List.not_mem_nil, or_false] at hc; omega)) (wr_ck _ _ _ _ (by decide)) (wr_ck _ _ _ _ (by decide)) ho'
  rw [eA, eB, mB]
  by_cases c32 : n + 1 = 32
  · rw [if_pos c32, if_pos c32]
    -- a frame is complete
    generalize hBz : wr (rB B e a) 46 (tn e) (nI (n + 1)) = Bz
    have Z : ∀ {cc k}, cc ≠ 44 → cc ≠ 45 → cc ≠ 46 → Bz cc k = B cc k := fun p q r => by rw [← hBz, wr_ck _ _ _ _ r, m1 _ _ p q]
    have Z45 : Bz 45 (tn e) = rA A c a c 2 := by rw [← hBz, wr_ck _ _ _ _ (by decide), rB_45, rA_2, r2]
    have Z47 : Bz 47 (tn e) = B 47 (tn e) := Z (by decide) (by decide) (by decide)
    -- the class before its rounds
    have keyT : ∀ A1 : Mem, (∀ k, A1 (c + 1) k = rA A c a (c + 1) k) → RO (sp_O_takeFrame (c + 1) A1 (rA A c a c 2) (zb (A c 4))) (sp_M_complete Bz e) (c + 1) e (T + 1) 2 (if B 47 (tn e) = 0 then 1 else 0) ∧ sp_M_complete Bz e 63 (tn (5 * e)) = Bz 63 (tn (5 * e)) + 1 ∧ sp_M_complete Bz e 63 (tn (5 * e + 1)) = Bz 63 (tn (5 * e + 1)) ∧ sp_M_complete Bz e 63 (tn (5 * e + 2)) = Bz 63 (tn (5 * e + 2)) := by
      intro A1 hA1
      rw [← Z45]
      rw [h0] at ho
      refine (O_step (T := T) he hT (RO_congr (A := A) (B := B) (fun k => ?_) (fun cc k hc => ?_) ?_ ?_ ho) (hoe.elim (fun h9 => Or.inl ⟨h9.2, h9.1⟩) (fun h9 => Or.inr ⟨h9.2, h9.1⟩)) Z47)
      · rw [hA1]; exact rA_c (Or.inl (by omega))
      · exact Z (by simp only [List.mem_cons, List.not_mem_nil, or_false] at hc; omega) (by simp only [List.mem_cons, List.not_mem_nil, or_false] at hc; omega) (by simp only [List.mem_cons, List.not_mem_nil, or_false] at hc; omega)
      · exact Z (by decide) (by decide) (by decide)
      · exact Z (by decide) (by decide) (by decide)
    generalize hA1 : (if zb (A c 4) = 0 then wr (wr (rA A c a) c 6 (rA A c a c 2)) c 7 (rA A c a c 7 + 1) else wr (wr (wr (rA A c a) c 6 (rA A c a c 2)) c 7 (rA A c a c 7 + 1)) c 9 (if ((sp_R_byteOf c (wr (wr (rA A c a) c 6 (rA A c a c 2)) c 7 (rA A c a c 7 + 1)) 0) &&& (32 : Int32)) = 0 then 0 else 1)) = A1
    have a1n : ∀ k, A1 (c + 1) k = rA A c a (c + 1) k := by
      intro k
      rw [← hA1]
      split <;> simp [wr_r]
    have a1c : ∀ {k}, k ≠ 6 → k ≠ 7 → k ≠ 9 → A1 c k = rA A c a c k := by
      intro k p q r
      rw [← hA1]
      split <;> simp [wr_r, p, q, r]
    have a16 : A1 c 6 = rA A c a c 2 ∧ A1 c 7 = nI (f + 1) := by
      have e7 : rA A c a c 7 = nI f := by rw [X (by decide) (by decide)]; exact f7
      rw [← hA1, e7, nI_1]
      split <;> simp [wr_r]
    have a19 : zb (A1 c 9) = if B 47 (tn e) = 0 then (if ((rA A c a c 2 >>> ((29 : Int32) &&& 31)) &&& (1 : Int32)) = 1 then 1 else 0) else B 51 (tn e) := by
      rw [← hA1]
      rcases hoe with ⟨p, q⟩ | ⟨p, q⟩
      · rw [if_pos p, q, if_neg (show ¬ (1 : Int32) = 0 by decide)]
        simp [wr_r]
        rw [X (by decide) (by decide)]; exact r9
      · rw [if_neg (by rw [p]; decide), q, if_pos rfl, wr_same]
        have e7 : ¬ nI f + 1 = 0 := by rw [nI_1, ← nI_0, nI_eq (by omega) (by omega)]; omega
        have hb : sp_R_byteOf c (wr (wr (rA A c a) c 6 (rA A c a c 2)) c 7 (rA A c a c 7 + 1)) 0 = iu (rA A c a c 2) 24 &&& 255 := by
          unfold sp_R_byteOf
          rw [wr_same, X (k := 7) (by decide) (by decide), f7, if_neg e7, wr_k _ _ _ _ (by decide), wr_same]
          rfl
        rw [hb]
        by_cases hx : (rA A c a c 2 >>> ((29 : Int32) &&& 31)) &&& 1 = 1
        · rw [if_neg (fun h9 => (al_eq _).mp h9 hx), if_pos hx]; rfl
        · rw [if_pos ((al_eq _).mpr hx), if_neg hx]; rfl
    have eC : sp_R_complete c (rA A c a) = wr (wr (sp_O_takeFrame (c + 1) A1 (rA A c a c 2) (zb (A c 4))) c 4 (if zb (A c 4) = 0 then 1 else 0)) c 3 0 := by
      unfold sp_R_complete
      rw [X (k := 4) (by decide) (by decide), ← hA1]
      by_cases hz : zb (A c 4) = 0
      · rw [if_pos hz, if_pos hz, if_pos hz, tkf_c]
        rw [wr_k _ _ _ _ (by decide), wr_k _ _ _ _ (by decide), X (k := 4) (by decide) (by decide), if_pos hz]
      · rw [if_neg hz, if_neg hz, if_neg hz, tkf_c]
        rw [wr_k _ _ _ _ (by decide), wr_k _ _ _ _ (by decide), wr_k _ _ _ _ (by decide), X (k := 4) (by decide) (by decide), if_neg hz]
    obtain ⟨kT, k0, k1, k2⟩ := keyT A1 a1n
    have C47 : sp_M_complete Bz e 47 (tn e) = B 47 (tn e) := by rw [cmp_c (by decide), cm2_c (by decide), Z47]
    rw [eC, C47]
    generalize hZz : (zb (if B 47 (tn e) = 0 then 1 else 0)) = nv
    have hnv : nv = if B 47 (tn e) = 0 then 1 else 0 := by rw [← hZz]; by_cases hx : B 47 (tn e) = 0 <;> simp [hx] <;> rfl
    have D : ∀ {cc k}, cc ≠ 46 → cc ≠ 47 → wr (wr (sp_M_complete Bz e) 46 (tn e) 0) 47 (tn e) nv cc k = sp_M_complete Bz e cc k := fun p q => by rw [wr_ck _ _ _ _ q, wr_ck _ _ _ _ p]
    have D47 : wr (wr (sp_M_complete Bz e) 46 (tn e) 0) 47 (tn e) nv 47 (tn e) = nv := wr_same _ _ _ _
    have D43 : wr (wr (sp_M_complete Bz e) 46 (tn e) 0) 47 (tn e) nv 43 (tn e) = 2 := by rw [D (by decide) (by decide), cmp_c (by decide), cm2_c (by decide), Z (by decide) (by decide) (by decide), h0]
    have CA : ∀ {k}, k ≠ 3 → k ≠ 4 → wr (wr (sp_O_takeFrame (c + 1) A1 (rA A c a c 2) (zb (A c 4))) c 4 (if zb (A c 4) = 0 then 1 else 0)) c 3 0 c k = A1 c k := fun p q => by rw [wr_k _ _ _ _ p, wr_k _ _ _ _ q, tkf_c]
    obtain ⟨g49, g50, g51⟩ := cm2_49 (B := Bz) (e := e)
    refine ⟨⟨?_, Or.inr (Or.inr D43), ?_, ?_, ?_, ?_, ⟨f + 1, by omega, ?_, ?_, ?_⟩, ?_, ⟨0, by omega, ?_, fun h9 => absurd D43 h9, fun h9 => ?_, fun _ => ⟨by decide, ?_⟩⟩, fun _ => ⟨?_, ?_⟩⟩, ?_, ?_⟩
    · rw [CA (by decide) (by decide), a1c (by decide) (by decide) (by decide), X (by decide) (by decide), D43, r1, h0]
    · rw [CA (by decide) (by decide), a1c (by decide) (by decide) (by decide), D (by decide) (by decide), cmp_c (by decide), cm2_c (by decide), Z45]
    · rw [CA (by decide) (by decide), a16.1, D (by decide) (by decide), cmp_c (by decide), g50, Z45]
    · rw [CA (by decide) (by decide), a1c (by decide) (by decide) (by decide), X (by decide) (by decide), D (by decide) (by decide), k2, Z (by decide) (by decide) (by decide)]; exact r8
    · rw [CA (by decide) (by decide), a19, D (by decide) (by decide), cmp_c (by decide), g51, Z47, Z45, Z (by decide) (by decide) (by decide)]
    · rw [CA (by decide) (by decide)]; exact a16.2
    · rw [D (by decide) (by decide), k0, Z (by decide) (by decide) (by decide), f63, nI_1]
    · rw [D (by decide) (by decide), cmp_c (by decide), g49, if_neg (by omega)]
    · rw [D47, hnv]; by_cases hx : B 47 (tn e) = 0 <;> simp [hx]
    · rw [wr_same]; rfl
    · rw [D43] at h9; exact absurd h9 (by decide)
    · rw [wr_ck _ _ _ _ (by decide), wr_same]; rfl
    · rw [D47, hnv, wr_k _ _ _ _ (by decide), wr_same]
      rcases hoe with ⟨p, q⟩ | ⟨p, q⟩
      · rw [p, q]; exact Or.inr ⟨rfl, rfl⟩
      · rw [p, q]; exact Or.inl ⟨rfl, rfl⟩
    · rw [CA (by decide) (by decide), a1c (by decide) (by decide) (by decide), X (by decide) (by decide), D (by decide) (by decide), cmp_c (by decide), cm2_c (by decide), Z (by decide) (by decide) (by decide)]; exact h5
    · rw [D43, D47]
      rw [← hnv] at kT
      refine RO_congr (B := sp_M_complete Bz e) (fun k => ?_) (fun cc k hc => D ?_ ?_) (D (by decide) (by decide)) (D (by decide) (by decide)) kT
      · rw [wr_ck _ _ _ _ (by omega), wr_ck _ _ _ _ (by omega)]
      all_goals (simp only [List.mem_cons, List.not_mem_nil, or_false] at hc; omega)
    · rw [D (by decide) (by decide), k1, Z (by decide) (by decide) (by decide)]
  · rw [if_neg c32, if_neg c32]
    by_cases c8 : n + 1 = 8
    · rw [if_pos c8, if_pos c8]
      rcases hoe with ⟨p, q⟩ | ⟨p, q⟩
      · rw [if_pos p, if_neg (show ¬ B 47 (tn e) = 0 by rw [q]; decide)]
        unfold sp_R_lookAtWord
        rw [hw, X (k := 5) (by decide) (by decide), h5, X (k := 8) (by decide) (by decide), r8]
        generalize (if sp_M_isWord (rB B e a) e = 0 then B 48 (tn e) + 1 else 0 : Int32) = w5
        by_cases c3 : w5 = 3
        · rw [if_pos c3, if_pos c3]
          -- alignment is lost
          generalize hBf : sp_M_fault (wr (wr (rB B e a) 46 (tn e) (nI (n + 1))) 48 (tn e) w5) e 1 2 = Bf
          have F : ∀ {cc k}, cc ≠ 44 → cc ≠ 45 → cc ≠ 46 → cc ≠ 48 → cc ≠ 63 → Bf cc k = B cc k := fun p1 p2 p3 p4 p5 => by
            rw [← hBf]; unfold sp_M_fault; rw [wr_ck _ _ _ _ p5, wr_ck _ _ _ _ p4, wr_ck _ _ _ _ p3, m1 _ _ p1 p2]
          have F63 : ∀ {k}, k ≠ tn (5 * e + 2) → Bf 63 k = B 63 k := fun p1 => by
            rw [← hBf]; unfold sp_M_fault; rw [wr_k _ _ _ _ p1, wr_ck _ _ _ _ (by decide), wr_ck _ _ _ _ (by decide), m1 _ _ (by decide) (by decide)]
          have F632 : Bf 63 (tn (5 * e + 2)) = B 63 (tn (5 * e + 2)) + 1 := by
            rw [← hBf]; unfold sp_M_fault; rw [wr_same, if_neg (by decide), wr_ck _ _ _ _ (by decide), wr_ck _ _ _ _ (by decide), m1 _ _ (by decide) (by decide)]
          have F45 : Bf 45 (tn e) = rA A c a c 2 := by
            rw [← hBf]; unfold sp_M_fault; rw [wr_ck _ _ _ _ (by decide), wr_ck _ _ _ _ (by decide), wr_ck _ _ _ _ (by decide), rB_45, rA_2, r2]
          generalize hAe : sp_R_enter c (wr (wr (rA A c a) c 5 w5) c 8 (B 63 (tn (5 * e + 2)) + 1)) 0 = Ae
          have e1 : Ae c 1 = 0 ∧ Ae c 3 = 0 ∧ Ae c 8 = B 63 (tn (5 * e + 2)) + 1 := by rw [← hAe]; unfold sp_R_enter; simp [wr_r]
          have ek : ∀ {k}, k ≠ 1 → k ≠ 3 → k ≠ 5 → k ≠ 8 → Ae c k = rA A c a c k := fun p1 p2 p3 p4 => by rw [← hAe]; unfold sp_R_enter; rw [wr_k _ _ _ _ p2, wr_k _ _ _ _ p1, wr_k _ _ _ _ p4, wr_k _ _ _ _ p3]
          have en : ∀ k, Ae (c + 1) k = A (c + 1) k := fun k => by rw [← hAe]; unfold sp_R_enter; rw [wr_ck _ _ _ _ (by omega), wr_ck _ _ _ _ (by omega), wr_ck _ _ _ _ (by omega), wr_ck _ _ _ _ (by omega), rA_c (Or.inl (by omega))]
          have sc : ∀ k, sp_O_startAnew (c + 1) Ae c k = Ae c k := fun k => by rw [fr_O_startAnew (by simp)]
          have n2' : ∀ j : Int32, j = 1 ∨ j = 3 ∨ j = 4 → tn (5 * e + j) ≠ tn (5 * e + 2) := by rcases he with rfl | rfl <;> rintro j (rfl | rfl | rfl) <;> decide
          have n20 : tn (5 * e) ≠ tn (5 * e + 2) := by rcases he with rfl | rfl <;> decide
          refine ⟨RR_srch (A := A) (B := B) (a := a) hT hf ?_ ?_ ?_ ?_ ?_ ?_ ?_ ?_ ?_ ?_, ?_, ?_⟩
          · rw [sc]; exact e1.1
          · rw [sc]; exact e1.2.1
          · rw [sc, ek (by decide) (by decide) (by decide) (by decide), F45]
          · rw [sc, ek (by decide) (by decide) (by decide) (by decide), X (by decide) (by decide), F (by decide) (by decide) (by decide) (by decide) (by decide)]; exact r6
          · rw [sc, e1.2.2, F632]
          · rw [sc, ek (by decide) (by decide) (by decide) (by decide), X (by decide) (by decide), F (by decide) (by decide) (by decide) (by decide) (by decide)]; exact r9
          · rw [sc, ek (by decide) (by decide) (by decide) (by decide), X (by decide) (by decide)]; exact f7
          · rw [F63 n20]; exact f63
          · rw [F (by decide) (by decide) (by decide) (by decide) (by decide)]; exact f49
          · rw [F (by decide) (by decide) (by decide) (by decide) (by decide)]; exact r47
          · rw [sch_43]
            obtain ⟨q1, q2, q3, q4, q5, q6, -, -⟩ := ho
            have sA : ∀ {k}, k ∉ ([0, 1, 4, 5, 9, 10] : List Nat) → sp_O_startAnew (c + 1) Ae (c + 1) k = A (c + 1) k := by
              intro k hk
              simp only [List.mem_cons, List.not_mem_nil, or_false, not_or] at hk
              unfold sp_O_startAnew sp_O_forgetNumber
              simp [wr_r, hk, en]
            have s0 : sp_O_startAnew (c + 1) Ae (c + 1) 0 = -1 ∧ sp_O_startAnew (c + 1) Ae (c + 1) 1 = 0 ∧ sp_O_startAnew (c + 1) Ae (c + 1) 4 = 0 ∧ sp_O_startAnew (c + 1) Ae (c + 1) 5 = 0 ∧ sp_O_startAnew (c + 1) Ae (c + 1) 9 = 0 ∧ sp_O_startAnew (c + 1) Ae (c + 1) 10 = 0 := by
              unfold sp_O_startAnew sp_O_forgetNumber
              simp [wr_r]
            have v52 : sp_M_search Bf e 52 (tn e) = 0 ∧ sp_M_search Bf e 57 (tn e) = 0 ∧ sp_M_search Bf e 60 (tn e) = 0 ∧ sp_M_search Bf e 62 (tn (2 * e)) = 0 ∧ sp_M_search Bf e 62 (tn (2 * e + 1)) = 0 := by
              unfold sp_M_search sp_M_forget
              rcases he with rfl | rfl <;> simp [wr_r, tn_0, tn_1, tn_2, tn_3] <;> decide
            refine ⟨?_, ?_, by rw [s0.2.2.2.2.1, v52.2.2.2.1]; rfl, by rw [s0.2.2.2.2.2, v52.2.2.2.2]; rfl, by rw [sA (by decide)]; exact q5, by rw [sA (by decide)]; exact q6, ⟨0, by omega, s0.2.1, fun _ => rfl, fun h9 => absurd h9 (by decide)⟩, Or.inl ⟨v52.1, s0.1, by rw [s0.2.2.1]; rfl, by rw [s0.2.2.2.1]; rfl, v52.2.1, v52.2.2.1, v52.2.2.2.1, v52.2.2.2.2⟩⟩
            · rw [sA (by decide), sch_c (by decide), F63 (n2' 3 (by simp))]; exact q1
            · rw [sA (by decide), sch_c (by decide), F63 (n2' 4 (by simp))]; exact q2
          · rw [sch_c (by decide), F63 (n2' 1 (by simp))]
        · rw [if_neg c3, if_neg c3]
          obtain ⟨g1, g2, g3⟩ := endN c32
          have W : ∀ {cc k}, cc ≠ 48 → wr (wr (rB B e a) 46 (tn e) (nI (n + 1))) 48 (tn e) w5 cc k = wr (rB B e a) 46 (tn e) (nI (n + 1)) cc k := fun p => wr_ck _ _ _ _ p
          have V : ∀ {k}, k ≠ 5 → wr (rA A c a) c 5 w5 c k = rA A c a c k := fun p => wr_k _ _ _ _ p
          obtain ⟨x1, xm, x2, x6, x8, x9, ⟨xf, xhf, x7, x63, x49⟩, x47, ⟨xn, xhn, xn3, xn44, xn1, xn2⟩, x4⟩ := g1
          refine ⟨⟨by rw [V (by decide), W (by decide)]; exact x1, by rw [W (by decide)]; exact xm, by rw [V (by decide), W (by decide)]; exact x2, by rw [V (by decide), W (by decide)]; exact x6, by rw [V (by decide), W (by decide)]; exact x8, by rw [V (by decide), W (by decide)]; exact x9, ⟨xf, xhf, by rw [V (by decide)]; exact x7, by rw [W (by decide)]; exact x63, by rw [W (by decide)]; exact x49⟩, by rw [W (by decide)]; exact x47, ⟨xn, xhn, by rw [V (by decide)]; exact xn3, by rw [W (by decide), W (by decide)]; exact xn44, by rw [W (by decide)]; exact xn1, by rw [W (by decide), W (by decide)]; exact xn2⟩, ?_⟩, ?_, by rw [W (by decide)]; exact g3⟩
          · intro h9
            rw [W (by decide)] at h9
            rw [V (by decide), W (by decide)]
            exact ⟨(x4 h9).1, by rw [wr_same, wr_same]⟩
          · rw [W (by decide), W (by decide)]
            exact RO_congr (fun k => wr_ck _ _ _ _ (by omega)) (fun cc k hc => W (by simp only [List.mem_cons, List.not_mem_nil, or_false] at hc; omega)) (W (by decide)) (W (by decide)) g2
      · rw [if_neg (by rw [p]; decide), if_pos q]
        exact endN c32
    · rw [if_neg c8, if_neg c8]
      exact endN c32
theorem R_step {A B : Mem} {c : Nat} {e a : Int32} {T : Nat} (he : e = 0 ∨ e = 1) (hT : T < 2000000) (h : RR A B c e T) (ho : RO A B (c + 1) e T (B 43 (tn e)) (B 47 (tn e))) :
    RR (sp_R_takeBit c A a) (sp_M_make B e a) c e (T + 1) ∧ RO (sp_R_takeBit c A a) (sp_M_make B e a) (c + 1) e (T + 1) (sp_M_make B e a 43 (tn e)) (sp_M_make B e a 47 (tn e)) ∧ sp_M_make B e a 63 (tn (5 * e + 1)) = B 63 (tn (5 * e + 1)) := by
  rcases h.2.1 with h9 | h9 | h9
  · exact R_step0 he hT h ho h9
  · exact R_step1 he hT h ho h9
  · exact R_step2 he hT h ho h9
