def RE (A B : Mem) (b : Nat) (e : Int32) (t : Nat) : Prop := ∃ p o g : Int32, ∃ a : Nat, p ∈ ([-1, 0, 1] : List Int32) ∧ o ∈ ([0, 1] : List Int32) ∧ g ∈ ([0, 1, 2, 3] : List Int32) ∧ a < 16 ∧ mR B e = (p, o, g, nI a) ∧ okE (min t 3) p o g a = true ∧ eR (b + 3) A = encF (min t 3) p o g a
theorem RE_congr {A A' B B' : Mem} {b : Nat} {e : Int32} {t : Nat} (he : e = 0 ∨ e = 1) (h3 : A' (b + 3) = A (b + 3)) (hB : ∀ c k, c ∈ [28, 29, 30, 31] → own e c k = true → B' c k = B c k) (h : RE A B b e t) : RE A' B' b e t := by
  unfold RE mR eR at *
  rw [h3, hB 28 _ (by decide) (own_28 he), hB 29 _ (by decide) (own_29 he), hB 30 _ (by decide) (own_30 he), hB 31 _ (by decide) (own_31 he)]
  exact h
theorem cS_c {b : Nat} {A : Mem} {x : Nat} (h : x ≠ b + 1) : (cS b A).2 x = A x := by
  unfold cS
  rw [fr_S_nextBit (by simpa using h)]
  split
  · rfl
  · rw [fr_S_beginFrame (by simpa using h)]
theorem E_step {A B : Mem} {b : Nat} {e : Int32} {t : Nat} (he : e = 0 ∨ e = 1) (ht : t < 1000000) (h21 : B 21 1 = nI (t + 1)) (h : RE A B b e t) (hb : (cS b A).1 = (sp_M_nextBit B e).1) (hb01 : (cS b A).1 = 0 ∨ (cS b A).1 = 1) : (sp_N_send b A).1 = (sp_M_send B e).1 ∧ RE (sp_N_send b A).2 (sp_M_send B e).2 b e (t + 1) := by
  obtain ⟨p, o, g, a, hp, ho, hg, ha, hm, hok, hr⟩ := h
  obtain ⟨x, hx, hx1⟩ : ∃ x : Nat, x ∈ [0, 1] ∧ (cS b A).1 = nI x := by
    rcases hb01 with h | h
    · exact ⟨0, by decide, h⟩
    · exact ⟨1, by decide, h⟩
  have key := nxE_all (min t 3) (by simp only [List.mem_cons, List.not_mem_nil, or_false]; omega) p hp o ho g hg a (List.mem_range.mpr ha) x hx
  unfold nxE at key
  rw [hok] at key
  simp only [Bool.not_true, Bool.false_or, Bool.and_eq_true, beq_iff_eq, List.contains_iff_mem] at key
  obtain ⟨⟨⟨⟨⟨⟨k1, k2⟩, k3⟩, k4⟩, k5⟩, k6⟩, k7⟩ := key
  obtain ⟨c1, c2⟩ := eC_eq (b + 3) (cS b A).2 (cS b A).1
  have hr1 : eR (b + 3) (cS b A).2 = encF (min t 3) p o g a := by
    rw [← hr]; unfold eR; rw [cS_c (by omega)]
  rw [hr1, hx1] at c1 c2
  obtain ⟨m1, m2⟩ := mE_eq B e
  have hq : decide (4 ≤ B 21 1) = (min t 3 == 3) := by
    rw [h21]
    by_cases h3 : 3 ≤ t
    · rw [decide_eq_true (show (4 : Int32) ≤ nI (t + 1) from nI_le (a := 4) (by omega) (by omega)), show min t 3 = 3 by omega]; rfl
    · rw [decide_eq_false (show ¬ (4 : Int32) ≤ nI (t + 1) from nI_ge (b := 4) (by omega) (by omega))]
      symm
      exact beq_eq_false_iff_ne.mpr (by omega)
  unfold mR at hm
  simp only [Prod.mk.injEq] at hm
  obtain ⟨q1, q2, q3, q4⟩ := hm
  rw [hq, q1, q2, q3, q4, ← hb, hx1] at m1 m2
  have hmin : min (t + 1) 3 = min (min t 3 + 1) 3 := by omega
  rw [cS_send]
  refine ⟨?_, _, _, _, (2 * a + x) % 16, k5, k6, k7, by omega, ?_, by rw [hmin]; exact k3, ?_⟩
  · rw [hx1, c1, m1, k1]
  · rw [m2, ← k2]
  · rw [hx1, c2, hmin]; exact k4.symm
/-- an end, class against reference: t time steps, T symbols taken at most -/
def RN (A B : Mem) (b : Nat) (e : Int32) (t T : Nat) : Prop := RS A B b e ∧ RE A B b e t ∧ RA A B b e ∧ RT A B b e T
theorem RN_congr {A A' B B' : Mem} {b : Nat} {e : Int32} {t T : Nat} (he : e = 0 ∨ e = 1) (hA : ∀ x, b < x → x < b + 10 → A' x = A x) (hB : ∀ c k, 22 ≤ c → own e c k = true → B' c k = B c k) (h : RN A B b e t T) : RN A' B' b e t T := by
  obtain ⟨h1, h2, h3, h4⟩ := h
  refine ⟨RS_congr he (hA _ (by omega) (by omega)) (hA _ (by omega) (by omega)) (fun c k hc ho => hB c k (by simp only [List.mem_cons, List.not_mem_nil, or_false] at hc; omega) ho) h1, RE_congr he (hA _ (by omega) (by omega)) (fun c k hc ho => hB c k (by simp only [List.mem_cons, List.not_mem_nil, or_false] at hc; omega) ho) h2, RA_congr he (hA _ (by omega) (by omega)) (hA _ (by omega) (by omega)) (hA _ (by omega) (by omega)) (fun c k hc ho => hB c k (by simp only [List.mem_cons, List.not_mem_nil, or_false] at hc; omega) ho) h3, RT_congr (fun x k hx => by rw [hA x (by simp only [List.mem_cons, List.not_mem_nil, or_false] at hx; omega) (by simp only [List.mem_cons, List.not_mem_nil, or_false] at hx; omega)]) (fun c k hc ho => hB c k (by omega) ho) he h4⟩
/-- an end sends -/
theorem N_send {A B : Mem} {b : Nat} {e : Int32} {t T : Nat} (he : e = 0 ∨ e = 1) (ht : t < 1000000) (h21 : B 21 1 = nI (t + 1)) (h : RN A B b e t T) : (sp_N_send b A).1 = (sp_M_send B e).1 ∧ RN (sp_N_send b A).2 (sp_M_send B e).2 b e (t + 1) T := by
  obtain ⟨h1, h2, h3, h4⟩ := h
  obtain ⟨s1, s2, s3⟩ := S_step he h1 h4.2.1 h4.2.2
  obtain ⟨e1, e2⟩ := E_step he ht h21 h2 s1 s2
  have fA : ∀ x, x ≠ b + 1 → x ≠ b + 3 → (sp_N_send b A).2 x = A x := fun x h1 h3 => fr_N_send (by simp only [List.mem_cons, List.not_mem_nil, or_false]; omega)
  refine ⟨e1, ?_, e2, ?_, ?_⟩
  · refine RS_congr he ?_ ?_ (fun c k hc ho => ?_) s3
    · rw [cS_send, fr_E_symbolBehind (by simp)]
    · rw [cS_send, fr_E_symbolBehind (by simp)]
    · rw [fr_M_send2 (by simp only [List.mem_cons, List.not_mem_nil, or_false] at hc ⊢; omega)]
  · exact RA_congr he (fA _ (by omega) (by omega)) (fA _ (by omega) (by omega)) (fA _ (by omega) (by omega)) (fun c k hc ho => by rw [fr_M_send (by simp only [List.mem_cons, List.not_mem_nil, or_false] at hc ⊢; omega)]) h3
  · exact RT_congr (fun x k hx => by rw [fA x (by simp only [List.mem_cons, List.not_mem_nil, or_false] at hx; omega) (by simp only [List.mem_cons, List.not_mem_nil, or_false] at hx; omega)]) (fun c k hc ho => by rw [fr_M_send (by simp only [List.mem_cons, List.not_mem_nil, or_false]; omega)]) he h4
/-- an end takes what arrives -/
theorem N_recv {A B : Mem} {b : Nat} {e s x : Int32} {t T : Nat} (he : e = 0 ∨ e = 1) (hT : T < 1999990) (h21 : B 21 1 = x) (h : RN A B b e t T) : RN (sp_N_receive b A x s) (sp_M_arrive B e s) b e t (T + 2) := by
  obtain ⟨h1, h2, h3, h4⟩ := h
  obtain ⟨a1, a2⟩ := A_step (s := s) he hT h21 h3 h4
  have fA : ∀ y, b < y → y < b + 4 → sp_N_receive b A x s y = A y := fun y h1 h3 => fr_N_receive (by simp only [List.mem_cons, List.not_mem_nil, or_false]; omega)
  have fB : ∀ c k, c < 32 → sp_M_arrive B e s c k = B c k := fun c k hc => by rw [fr_M_arrive (by simp only [List.mem_cons, List.not_mem_nil, or_false]; omega)]
  exact ⟨RS_congr he (fA _ (by omega) (by omega)) (fA _ (by omega) (by omega)) (fun c k hc ho => fB c k (by simp only [List.mem_cons, List.not_mem_nil, or_false] at hc; omega)) h1, RE_congr he (fA _ (by omega) (by omega)) (fun c k hc ho => fB c k (by simp only [List.mem_cons, List.not_mem_nil, or_false] at hc; omega)) h2, a1, a2⟩
