/-! one time step of both ends -/
theorem own_ex0 {c k : Nat} (h : own 1 c k = true) : own 0 c k = false := by
  unfold own at *
  rw [show tn 1 = 1 from rfl] at h
  rw [show tn 0 = 0 from rfl]
  repeat' split
  all_goals simp_all
theorem own_ex1 {c k : Nat} (h : own 0 c k = true) : own 1 c k = false := by
  cases h1 : own 1 c k with
  | false => rfl
  | true => rw [own_ex0 h1] at h; cases h
def Rab (A B : Mem) (t : Nat) : Prop := A 0 2 = nI t ∧ B 21 1 = nI t ∧ RN A B 1 0 t (2 * t) ∧ RN A B 11 1 t (2 * t)
def pA (A : Mem) : Mem := sp_N_receive 11 (sp_N_receive 1 (sp_N_send 11 (sp_N_send 1 (wr A 0 2 (A 0 2 + 1))).2).2 ((sp_N_send 11 (sp_N_send 1 (wr A 0 2 (A 0 2 + 1))).2).2 0 2) (sp_N_send 11 (sp_N_send 1 (wr A 0 2 (A 0 2 + 1))).2).1) (sp_N_receive 1 (sp_N_send 11 (sp_N_send 1 (wr A 0 2 (A 0 2 + 1))).2).2 ((sp_N_send 11 (sp_N_send 1 (wr A 0 2 (A 0 2 + 1))).2).2 0 2) (sp_N_send 11 (sp_N_send 1 (wr A 0 2 (A 0 2 + 1))).2).1 0 2) (sp_N_send 1 (wr A 0 2 (A 0 2 + 1))).1
def pB (B : Mem) : Mem := sp_M_arrive (sp_M_arrive (sp_M_send (sp_M_send (wr B 21 1 (B 21 1 + 1)) 0).2 1).2 0 (sp_M_send (sp_M_send (wr B 21 1 (B 21 1 + 1)) 0).2 1).1) 1 (sp_M_send (wr B 21 1 (B 21 1 + 1)) 0).1
theorem RN_hm {A B : Mem} {b : Nat} {e : Int32} {t T : Nat} (h : RN A B b e t T) : (∃ w : Nat, w ≤ 8 ∧ A (b + 4) 2 = nI w) ∧ (∃ w : Nat, w ≤ 8 ∧ B 32 (tn e) = nI w) := by
  obtain ⟨-, -, ⟨-, w, hw, h2, h32, -⟩, -⟩ := h
  exact ⟨⟨w, hw, h2⟩, ⟨w, hw, h32⟩⟩
theorem fsend {b : Nat} {A : Mem} {x : Nat} (h1 : x ≠ b + 1) (h3 : x ≠ b + 3) : (sp_N_send b A).2 x = A x := fr_N_send (by simp only [List.mem_cons, List.not_mem_nil, or_false]; omega)
theorem frecv {b : Nat} {A : Mem} {t s : Int32} {x : Nat} (h : ¬ (b + 4 ≤ x ∧ x ≤ b + 9)) : sp_N_receive b A t s x = A x := fr_N_receive (by simp only [List.mem_cons, List.not_mem_nil, or_false]; omega)
theorem P_step {A B : Mem} {t : Nat} (ht : t < 900000) (h : Rab A B t) : Rab (pA A) (pB B) (t + 1) := by
  obtain ⟨h0, h21, hX, hY⟩ := h
  have e0 : (0 : Int32) = 0 ∨ (0 : Int32) = 1 := Or.inl rfl
  have e1 : (1 : Int32) = 0 ∨ (1 : Int32) = 1 := Or.inr rfl
  -- the time
  have X1 : RN (wr A 0 2 (A 0 2 + 1)) (wr B 21 1 (B 21 1 + 1)) 1 0 t (2 * t) := RN_congr e0 (fun x h1 h2 => wr_c _ _ _ _ (by omega)) (fun c k hc _ => wr_ck _ _ _ _ (by omega)) hX
  have Y1 : RN (wr A 0 2 (A 0 2 + 1)) (wr B 21 1 (B 21 1 + 1)) 11 1 t (2 * t) := RN_congr e1 (fun x h1 h2 => wr_c _ _ _ _ (by omega)) (fun c k hc _ => wr_ck _ _ _ _ (by omega)) hY
  have t1 : wr A 0 2 (A 0 2 + 1) 0 2 = nI (t + 1) := by rw [wr_same, h0, nI_1]
  have u1 : wr B 21 1 (B 21 1 + 1) 21 1 = nI (t + 1) := by rw [wr_same, h21, nI_1]
  unfold pA pB
  revert X1 Y1 t1 u1
  generalize wr A 0 2 (A 0 2 + 1) = A1
  generalize wr B 21 1 (B 21 1 + 1) = B1
  intro X1 Y1 t1 u1
  -- end 0 sends
  obtain ⟨s0, X2⟩ := N_send e0 (by omega) u1 X1
  have Y2 : RN (sp_N_send 1 A1).2 (sp_M_send B1 0).2 11 1 t (2 * t) := RN_congr e1 (fun x h1 h2 => fsend (by omega) (by omega)) (fun c k hc ho => ix_send e0 (own_ex0 ho)) Y1
  have t2 : (sp_N_send 1 A1).2 0 2 = nI (t + 1) := by rw [fsend (by omega) (by omega)]; exact t1
  have u2 : (sp_M_send B1 0).2 21 1 = nI (t + 1) := by rw [fr_M_send (by decide)]; exact u1
  rw [← s0]
  revert X2 Y2 t2 u2
  generalize (sp_N_send 1 A1).1 = z0
  generalize (sp_N_send 1 A1).2 = A2
  generalize (sp_M_send B1 0).2 = B2
  intro X2 Y2 t2 u2
  -- end 1 sends
  obtain ⟨s1, Y3⟩ := N_send e1 (by omega) u2 Y2
  have X3 : RN (sp_N_send 11 A2).2 (sp_M_send B2 1).2 1 0 (t + 1) (2 * t) := RN_congr e0 (fun x h1 h2 => fsend (by omega) (by omega)) (fun c k hc ho => ix_send e1 (own_ex1 ho)) X2
  have t3 : (sp_N_send 11 A2).2 0 2 = nI (t + 1) := by rw [fsend (by omega) (by omega)]; exact t2
  have u3 : (sp_M_send B2 1).2 21 1 = nI (t + 1) := by rw [fr_M_send (by decide)]; exact u2
  rw [← s1]
  revert X3 Y3 t3 u3
  generalize (sp_N_send 11 A2).1 = z1
  generalize (sp_N_send 11 A2).2 = A3
  generalize (sp_M_send B2 1).2 = B3
  intro Y3 X3 t3 u3
  -- end 0 takes
  have X4 := N_recv (s := z1) (T := 2 * t) e0 (by omega) (u3.trans t3.symm) X3
  have Y4 : RN (sp_N_receive 1 A3 (A3 0 2) z1) (sp_M_arrive B3 0 z1) 11 1 (t + 1) (2 * t) := RN_congr e1 (fun x h1 h2 => frecv (by omega)) (fun c k hc ho => ix_arrive e0 (own_ex0 ho) (RN_hm X3).2) Y3
  have t4 : sp_N_receive 1 A3 (A3 0 2) z1 0 2 = nI (t + 1) := by rw [frecv (by omega)]; exact t3
  have u4 : sp_M_arrive B3 0 z1 21 1 = nI (t + 1) := by rw [fr_M_arrive (by decide)]; exact u3
  revert X4 Y4 t4 u4
  generalize sp_N_receive 1 A3 (A3 0 2) z1 = A4
  generalize sp_M_arrive B3 0 z1 = B4
  intro X4 Y4 t4 u4
  -- end 1 takes
  have Y5 := N_recv (s := z0) (T := 2 * t) e1 (by omega) (u4.trans t4.symm) Y4
  have X5 : RN (sp_N_receive 11 A4 (A4 0 2) z0) (sp_M_arrive B4 1 z0) 1 0 (t + 1) (2 * t + 2) := RN_congr e0 (fun x h1 h2 => frecv (by omega)) (fun c k hc ho => ix_arrive e1 (own_ex1 ho) (RN_hm Y4).2) X4
  refine ⟨?_, ?_, X5, Y5⟩
  · rw [frecv (by omega)]; exact t4
  · rw [fr_M_arrive (by decide)]; exact u4
theorem fp_e (a1 : Int32) (d : Nat) (G : Mem) (x : Int32) : sp_F_pass_22 a1 (d + 1) G x = if a1 ≤ x then (0, G 0 2, G) else sp_F_pass_22 a1 d (pA G) (x + 1) := rfl
theorem mp_e (a1 : Int32) (d : Nat) (G : Mem) (x : Int32) : sp_M_pass_22 a1 (d + 1) G x = if a1 ≤ x then ((if G 21 0 = 0 then G 21 1 else 0), G) else (if G 21 0 = 0 then sp_M_pass_22 a1 d (pB G) (x + 1) else (0, G)) := rfl
theorem pB_21 (B : Mem) : pB B 21 0 = B 21 0 := by
  unfold pB
  rw [fr_M_arrive (by decide), fr_M_arrive (by decide), fr_M_send (by decide), fr_M_send (by decide), wr_k _ _ _ _ (by decide)]
theorem P_loop {n : Nat} (hn : n ≤ 600) : ∀ (d j t : Nat) (A B : Mem), j ≤ n → d = 601 - j → t + 600 < 900000 + j → B 21 0 = 0 → Rab A B t → (sp_F_pass_22 (nI n) d A (nI j)).1 = 0 ∧ (sp_M_pass_22 (nI n) d B (nI j)).1 = (sp_F_pass_22 (nI n) d A (nI j)).2.1 ∧ (sp_M_pass_22 (nI n) d B (nI j)).2 21 0 = 0 ∧ Rab (sp_F_pass_22 (nI n) d A (nI j)).2.2 (sp_M_pass_22 (nI n) d B (nI j)).2 (t + (n - j)) := by
  intro d
  induction d with
  | zero => intro j t A B hj hd; omega
  | succ d ih =>
    intro j t A B hj hd ht h21 h
    rw [fp_e, mp_e]
    by_cases c : j = n
    · subst c
      rw [if_pos (Int32.le_refl _), if_pos (Int32.le_refl _), if_pos h21, Nat.sub_self]
      exact ⟨rfl, h.2.1.trans h.1.symm, h21, h⟩
    · have c1 : ¬ nI n ≤ nI j := nI_ge (by omega) (by omega)
      rw [if_neg c1, if_neg c1, if_pos h21, nI_1, show t + (n - j) = t + 1 + (n - (j + 1)) by omega]
      exact ih (j + 1) (t + 1) _ _ (by omega) (by omega) (by omega) ((pB_21 B).trans h21) (P_step (by omega) h)
/-- the class's loop keeps to its cells, the reference's to its own -/
theorem pA_c {A : Mem} {x : Nat} (h : 21 ≤ x) : pA A x = A x := by
  unfold pA
  rw [frecv (by omega), frecv (by omega), fsend (by omega) (by omega), fsend (by omega) (by omega), wr_c _ _ _ _ (by omega)]
theorem fpl_c {a1 : Int32} {x : Nat} (h : 21 ≤ x) : ∀ (d : Nat) (G : Mem) (y : Int32), (sp_F_pass_22 a1 d G y).2.2 x = G x := by
  intro d
  induction d with
  | zero => intro G y; rfl
  | succ d ih =>
    intro G y
    rw [fp_e]
    split
    · rfl
    · rw [ih, pA_c h]
theorem pB_c {B : Mem} {x : Nat} (h : x < 21) : pB B x = B x := by
  unfold pB
  rw [fr_M_arrive (by simp only [List.mem_cons, List.not_mem_nil, or_false]; omega), fr_M_arrive (by simp only [List.mem_cons, List.not_mem_nil, or_false]; omega), fr_M_send (by simp only [List.mem_cons, List.not_mem_nil, or_false]; omega), fr_M_send (by simp only [List.mem_cons, List.not_mem_nil, or_false]; omega), wr_c _ _ _ _ (by omega)]
theorem mpl_c {a1 : Int32} {x : Nat} (h : x < 21) : ∀ (d : Nat) (G : Mem) (y : Int32), (sp_M_pass_22 a1 d G y).2 x = G x := by
  intro d
  induction d with
  | zero => intro G y; rfl
  | succ d ih =>
    intro G y
    rw [mp_e]
    split
    · rfl
    · split
      · rw [ih, pB_c h]
      · rfl
theorem Rab_congr {A A' B B' : Mem} {t : Nat} (hA : ∀ x, x < 21 → A' x = A x) (h1 : B' 21 1 = B 21 1) (hB : ∀ x k, 22 ≤ x → B' x k = B x k) (h : Rab A B t) : Rab A' B' t := by
  obtain ⟨h0, h21, hX, hY⟩ := h
  exact ⟨by rw [hA 0 (by omega)]; exact h0, by rw [h1]; exact h21, RN_congr (Or.inl rfl) (fun x h1 h2 => hA x (by omega)) (fun c k hc _ => hB c k hc) hX, RN_congr (Or.inr rfl) (fun x h1 h2 => hA x (by omega)) (fun c k hc _ => hB c k hc) hY⟩
def Rel (n : Nat) (G : Mem) : Prop := ∃ t : Nat, t ≤ 600 * n ∧ Rab G G t
