def rA (A : Mem) (c : Nat) (a : Int32) : Mem := wr (wr A c 2 ((A c 2 <<< ((1 : Int32) &&& 31)) ||| a)) c 3 (A c 3 + 1)
def rB (B : Mem) (e a : Int32) : Mem := wr (wr B 45 (tn e) ((B 45 (tn e) <<< ((1 : Int32) &&& 31)) ||| a)) 44 (tn e) (if 100 ≤ B 44 (tn e) then B 44 (tn e) else B 44 (tn e) + 1)
theorem sn_step : ∀ m, m ≤ 100 → (if 100 ≤ nI m then nI m else nI m + 1 : Int32) = nI (min (m + 1) 100) := by decide +kernel
theorem rA_c {A : Mem} {c k : Nat} {a : Int32} {cc : Nat} (h : cc ≠ c ∨ (k ≠ 2 ∧ k ≠ 3)) : rA A c a cc k = A cc k := by
  unfold rA
  rw [wr_r, wr_r]
  rcases h with h9 | h9
  · simp [h9]
  · simp [h9]
theorem rA_2 {A : Mem} {c : Nat} {a : Int32} : rA A c a c 2 = (A c 2 <<< ((1 : Int32) &&& 31)) ||| a := by unfold rA; simp [wr_r]
theorem rA_3 {A : Mem} {c : Nat} {a : Int32} : rA A c a c 3 = A c 3 + 1 := by unfold rA; simp [wr_r]
theorem rB_c {B : Mem} {e a : Int32} {cc k : Nat} (h : cc ≠ 44 ∧ cc ≠ 45) : rB B e a cc k = B cc k := by unfold rB; simp [wr_r, h]
theorem rB_45 {B : Mem} {e a : Int32} : rB B e a 45 (tn e) = (B 45 (tn e) <<< ((1 : Int32) &&& 31)) ||| a := by unfold rB; simp [wr_r]
theorem rB_44 {B : Mem} {e a : Int32} : rB B e a 44 (tn e) = (if 100 ≤ B 44 (tn e) then B 44 (tn e) else B 44 (tn e) + 1) := by unfold rB; rw [wr_same]
theorem n3_0 : n3 0 = 0 := rfl
theorem n3_1 : n3 1 = 1 := rfl
theorem n3_2 : n3 2 = 2 := rfl
theorem RO_r {A B : Mem} {c : Nat} {e a : Int32} {T : Nat} {md ev : Int32} (h : RO A B (c + 1) e T md ev) : RO (rA A c a) (rB B e a) (c + 1) e (T + 1) md ev :=
  RO_mono (by omega) (RO_congr (fun k => rA_c (Or.inl (by omega))) (fun cc k hc => rB_c (by simp only [List.mem_cons, List.not_mem_nil, or_false] at hc; omega)) (rB_c (by omega)) (rB_c (by omega)) h)
theorem words_eq {A B : Mem} {c : Nat} {e : Int32} (h : A c 2 = B 45 (tn e)) : sp_R_wordStands c A = sp_M_isWord B e := by
  unfold sp_R_wordStands sp_M_isWord
  rw [h]
/-- a bit that is only counted -/
theorem RR_stay {A B : Mem} {c : Nat} {e a : Int32} {T : Nat} (hT : T < 2000000) (h : RR A B c e T) (h2 : B 43 (tn e) ≠ 2) (h64 : ∀ n, A c 3 = nI n → n ≤ T → B 43 (tn e) = 1 → n + 1 < 64) : RR (rA A c a) (rB B e a) c e (T + 1) := by
  obtain ⟨r1, rm, r2, r6, r8, r9, ⟨f, hf, f7, f63, f49⟩, r47, ⟨n, hn, n3, n44, n1, n2⟩, r4⟩ := h
  have X : ∀ {k}, k ≠ 2 → k ≠ 3 → rA A c a c k = A c k := fun a b => rA_c (Or.inr ⟨a, b⟩)
  refine ⟨by rw [X (by decide) (by decide), rB_c (by decide)]; exact r1, by rw [rB_c (by decide)]; exact rm, by rw [rA_2, rB_45, r2], by rw [X (by decide) (by decide), rB_c (by decide)]; exact r6, by rw [X (by decide) (by decide), rB_c (by decide)]; exact r8, by rw [X (by decide) (by decide), rB_c (by decide)]; exact r9, ⟨f, by omega, by rw [X (by decide) (by decide)]; exact f7, by rw [rB_c (by decide)]; exact f63, by rw [rB_c (by decide)]; exact f49⟩, by rw [rB_c (by decide)]; exact r47, ⟨n + 1, by omega, by rw [rA_3, n3, nI_1], fun _ => ?_, fun h9 => ?_, fun h9 => ?_⟩, fun h9 => ?_⟩
  · rw [rB_44, n44 h2, sn_step _ (by omega)]; congr 1; omega
  · rw [rB_c (by decide)] at h9; exact h64 n n3 hn h9
  · rw [rB_c (by decide)] at h9; exact absurd h9 h2
  · rw [rB_c (by decide)] at h9; exact absurd h9 h2
set_option maxHeartbeats 2000000 in
theorem R_step0 {A B : Mem} {c : Nat} {e a : Int32} {T : Nat} (he : e = 0 ∨ e = 1) (hT : T < 2000000) (h : RR A B c e T) (ho : RO A B (c + 1) e T (B 43 (tn e)) (B 47 (tn e))) (h0 : B 43 (tn e) = 0) :
    RR (sp_R_takeBit c A a) (sp_M_make B e a) c e (T + 1) ∧ RO (sp_R_takeBit c A a) (sp_M_make B e a) (c + 1) e (T + 1) (sp_M_make B e a 43 (tn e)) (sp_M_make B e a 47 (tn e)) ∧ sp_M_make B e a 63 (tn (5 * e + 1)) = B 63 (tn (5 * e + 1)) := by
  have hs := RR_stay (a := a) hT h (by rw [h0]; decide) (fun n _ _ h9 => by rw [h0] at h9; exact absurd h9 (by decide))
  have ho' := RO_r (a := a) ho
  obtain ⟨r1, rm, r2, r6, r8, r9, ⟨f, hf, f7, f63, f49⟩, r47, ⟨n, hn, n3', n44, n1, n2⟩, r4⟩ := h
  have hm44 := n44 (by rw [h0]; decide)
  have eA : sp_R_takeBit c A a = sp_R_search c (rA A c a) := by unfold sp_R_takeBit; rw [r1, h0, if_pos rfl]; rfl
  have eB : sp_M_make B e a = if nI (min (n + 1) 100) < 7 then rB B e a else (if sp_M_isWord (rB B e a) e = 0 then rB B e a else wr (wr (rB B e a) 43 (tn e) 1) 44 (tn e) 0) := by
    have e44 : (if 100 ≤ B 44 (tn e) then B 44 (tn e) else B 44 (tn e) + 1 : Int32) = nI (min (n + 1) 100) := by rw [hm44, sn_step _ (by omega)]; congr 1; omega
    unfold sp_M_make
    rw [h0, if_neg (by decide), if_pos rfl]
    unfold rB
    rw [e44]
  have hw : sp_R_wordStands c (rA A c a) = sp_M_isWord (rB B e a) e := words_eq (by rw [rA_2, rB_45, r2])
  rw [eA, eB]
  unfold sp_R_search
  rw [rA_3, n3', nI_1, hw]
  have hlt : (nI (n + 1) < 7) ↔ n + 1 < 7 := nI_ltI (b := 7) (by omega) (by omega)
  have hlt2 : (nI (min (n + 1) 100) < 7) ↔ n + 1 < 7 := (nI_ltI (b := 7) (by omega) (by omega)).trans (by omega)
  have m1 : ∀ cc k, cc ≠ 44 → cc ≠ 45 → rB B e a cc k = B cc k := fun cc k a b => rB_c ⟨a, b⟩
  by_cases c7 : n + 1 < 7
  · rw [if_pos (hlt.mpr c7), if_pos (hlt2.mpr c7)]
    refine ⟨hs, ?_, m1 _ _ (by decide) (by decide)⟩
    rw [m1 43 _ (by decide) (by decide), m1 47 _ (by decide) (by decide)]
    exact ho'
  · rw [if_neg (fun h9 => c7 (hlt.mp h9)), if_neg (fun h9 => c7 (hlt2.mp h9))]
    by_cases cw : sp_M_isWord (rB B e a) e = 0
    · rw [if_pos cw, if_pos cw]
      refine ⟨hs, ?_, m1 _ _ (by decide) (by decide)⟩
      rw [m1 43 _ (by decide) (by decide), m1 47 _ (by decide) (by decide)]
      exact ho'
    · rw [if_neg cw, if_neg cw]
      have w43 : wr (wr (rB B e a) 43 (tn e) 1) 44 (tn e) 0 43 (tn e) = 1 := by simp [wr_r]
      have w44 : wr (wr (rB B e a) 43 (tn e) 1) 44 (tn e) 0 44 (tn e) = 0 := by simp [wr_r]
      have w45 : wr (wr (rB B e a) 43 (tn e) 1) 44 (tn e) 0 45 (tn e) = (B 45 (tn e) <<< ((1 : Int32) &&& 31)) ||| a := by rw [wr_ck _ _ _ _ (by decide), wr_ck _ _ _ _ (by decide), rB_45]
      have W : ∀ cc k, cc ≠ 43 → cc ≠ 44 → cc ≠ 45 → wr (wr (rB B e a) 43 (tn e) 1) 44 (tn e) 0 cc k = B cc k := fun cc k a1 b1 c1 => by rw [wr_ck _ _ _ _ b1, wr_ck _ _ _ _ a1, m1 _ _ b1 c1]
      unfold sp_R_enter
      have Y : ∀ {k}, k ≠ 1 → k ≠ 2 → k ≠ 3 → wr (wr (rA A c a) c 1 1) c 3 0 c k = A c k := fun p q r => by rw [wr_k _ _ _ _ r, wr_k _ _ _ _ p]; exact rA_c (Or.inr ⟨q, r⟩)
      refine ⟨⟨?_, Or.inr (Or.inl w43), ?_, ?_, ?_, ?_, ⟨f, by omega, ?_, ?_, ?_⟩, ?_, ⟨0, by omega, ?_, fun _ => w44, fun _ => by decide, fun h9 => ?_⟩, fun h9 => ?_⟩, ?_, W _ _ (by decide) (by decide) (by decide)⟩
      · rw [w43]; simp [wr_r]
      · rw [w45, wr_k _ _ _ _ (by decide), wr_k _ _ _ _ (by decide), rA_2, r2]
      · rw [Y (by decide) (by decide) (by decide), W _ _ (by decide) (by decide) (by decide)]; exact r6
      · rw [Y (by decide) (by decide) (by decide), W _ _ (by decide) (by decide) (by decide)]; exact r8
      · rw [Y (by decide) (by decide) (by decide), W _ _ (by decide) (by decide) (by decide)]; exact r9
      · rw [Y (by decide) (by decide) (by decide)]; exact f7
      · rw [W _ _ (by decide) (by decide) (by decide)]; exact f63
      · rw [W _ _ (by decide) (by decide) (by decide)]; exact f49
      · rw [W _ _ (by decide) (by decide) (by decide)]; exact r47
      · rw [wr_same]; rfl
      · rw [w43] at h9; exact absurd h9 (by decide)
      · rw [w43] at h9; exact absurd h9 (by decide)
      · rw [w43]
        rw [h0] at ho
        refine RO_mono (T := T) (by omega) (RO_congr (A := A) (B := B) (fun k => ?_) (fun cc k hc => W cc k ?_ ?_ ?_) (W _ _ (by decide) (by decide) (by decide)) (W _ _ (by decide) (by decide) (by decide)) (RO_unk (by decide) (by decide) ho))
        · rw [wr_ck _ _ _ _ (by omega), wr_ck _ _ _ _ (by omega), rA_c (Or.inl (by omega))]
        all_goals (simp only [List.mem_cons, List.not_mem_nil, or_false] at hc; omega)
