theorem own_ix8 {e : Int32} (he : e = 0 ∨ e = 1) {k : Nat} (hk : k < 8) : own e 33 (ix8 e k) = true ∧ own e 34 (ix8 e k) = true := by
  have key : ∀ i, i < 8 → ix8 0 i = i ∧ ix8 1 i = 8 + i := by unfold ix8; decide +kernel
  obtain ⟨a1, a2⟩ := key k hk
  rcases he with rfl | rfl
  · rw [a1]; revert k; decide
  · rw [a2]; revert k; decide
theorem RA_congr {A A' B B' : Mem} {b : Nat} {e : Int32} (he : e = 0 ∨ e = 1) (h4 : A' (b + 4) = A (b + 4)) (h5 : A' (b + 5) = A (b + 5)) (h6 : A' (b + 6) = A (b + 6)) (hB : ∀ c k, c ∈ [32, 33, 34, 35] → own e c k = true → B' c k = B c k) (h : RA A B b e) : RA A' B' b e := by
  obtain ⟨h3, w, hw, h2, h32, hk, hd⟩ := h
  unfold RA
  rw [h4, h5, h6, hB 35 _ (by decide) (own_35 he), hB 32 _ (by decide) (own_32 he)]
  refine ⟨h3, w, hw, h2, h32, fun k hk9 => ?_, hd⟩
  rw [hB 33 _ (by decide) (own_ix8 he (show k < 8 by omega)).1, hB 34 _ (by decide) (own_ix8 he (show k < 8 by omega)).2]
  exact hk k hk9
theorem recv_step (b : Nat) (t s : Int32) (d : Nat) (G : Mem) (x3 x4 x5 : Int32) : sp_N_receive_22 b t s (d + 1) G x3 x4 x5 = if x4 ≤ x5 then G else sp_N_receive_22 b t s d (cT b G x3) x3 x4 (x5 + 1) := by
  show (if x4 ≤ x5 then G else _) = _
  unfold cT
  by_cases h : (sp_D_bitBehind (b + 7) G x3).1 = -1
  · rw [if_pos h, if_pos h]
  · rw [if_neg h, if_neg h]
theorem recv_1 (b : Nat) (t s : Int32) (G : Mem) (x : Int32) : sp_N_receive_22 b t s 2 G x 1 0 = cT b G x := by
  rw [recv_step, if_neg (show ¬ (1 : Int32) ≤ 0 by decide), recv_step, if_pos (show (1 : Int32) ≤ 0 + 1 by decide)]
theorem recv_2 (b : Nat) (t s : Int32) (G : Mem) (x : Int32) : sp_N_receive_22 b t s 3 G x 2 0 = cT b (cT b G x) x := by
  rw [recv_step, if_neg (show ¬ (2 : Int32) ≤ 0 by decide), recv_step, if_neg (show ¬ (2 : Int32) ≤ 0 + 1 by decide), recv_step, if_pos (show (2 : Int32) ≤ 0 + 1 + 1 by decide)]
theorem RA_slip {A B : Mem} {b : Nat} {e v : Int32} {w9 : Int32} (he : e = 0 ∨ e = 1) (hz : zb v = w9) (h : RA A B b e) : RA (wr A (b + 4) 3 v) (wr B 35 (tn e) w9) b e := by
  obtain ⟨h3, w, hw, h2, h32, hk, hd⟩ := h
  refine ⟨by rw [wr_same, wr_same, hz], w, hw, by rw [wr_k _ _ _ _ (by decide)]; exact h2, by rw [wr_ck _ _ _ _ (by decide)]; exact h32, fun k hk9 => ?_, fun i j hi hj => ?_⟩
  · rw [wr_ck _ _ _ _ (by first | decide | omega), wr_ck _ _ _ _ (by first | decide | omega), wr_ck _ _ _ _ (by first | decide | omega), wr_ck _ _ _ _ (by first | decide | omega)]
    exact hk k hk9
  · rw [wr_ck _ _ _ _ (by omega), wr_ck _ _ _ _ (by omega)]
    exact hd i j hi hj
theorem RA_take {A B : Mem} {b : Nat} {e s : Int32} (he : e = 0 ∨ e = 1) (h : RA A B b e) : RA (cT b A s) (sp_M_take B e s) b e :=
  RA_congr he (cT_c (by simp)) (cT_c (by simp)) (cT_c (by simp)) (fun c k hc _ => by rw [fr_M_take (by simp only [List.mem_cons, List.not_mem_nil, or_false] at hc ⊢; omega)]) h
/-- what arrives at an end -/
theorem A_step {A B : Mem} {b : Nat} {e t s : Int32} {T : Nat} (he : e = 0 ∨ e = 1) (hT : T < 1999990) (ht : B 21 1 = t) (ha : RA A B b e) (h : RT A B b e T) : RA (sp_N_receive b A t s) (sp_M_arrive B e s) b e ∧ RT (sp_N_receive b A t s) (sp_M_arrive B e s) b e (T + 2) := by
  obtain ⟨v1, r1⟩ := RA_come (s := s) he ha ht
  have hRT1 : RT (sp_A_asItComes (b + 4) A t s).2 (sp_M_coming B e s).2 b e T := RT_congr (fun x k hx => by rw [fr_A_asItComes (by simp only [List.mem_cons, List.not_mem_nil, or_false] at hx ⊢; omega)]) (fun c k hc _ => by rw [fr_M_coming (by simp only [List.mem_cons, List.not_mem_nil, or_false]; omega)]) he h
  unfold sp_N_receive sp_M_arrive
  rw [v1]
  generalize (sp_M_coming B e s).1 = v
  revert r1 hRT1
  generalize (sp_A_asItComes (b + 4) A t s).2 = A1
  generalize (sp_M_coming B e s).2 = B1
  intro r1 hRT1
  have k35 : sp_M_take B1 e v 35 (tn e) = B1 35 (tn e) := by rw [fr_M_take (by decide)]
  rw [k35]
  unfold sp_A_comings
  have hz : zb (A1 (b + 4) 3) = B1 35 (tn e) := r1.1
  have hid : wr B1 35 (tn e) (B1 35 (tn e)) = B1 := wr_id _ _ _
  have hRT2 : ∀ x, RT (wr A1 (b + 4) 3 x) B1 b e T := fun x => RT_congr (fun x k hx => by rw [wr_ck _ _ _ _ (by simp only [List.mem_cons, List.not_mem_nil, or_false] at hx; omega)]) (fun c k hc _ => rfl) he hRT1
  by_cases hc : zb (A1 (b + 4) 3) = 0
  · have r2 : RA (wr A1 (b + 4) 3 0) B1 b e := by
      have := RA_slip (v := 0) (w9 := B1 35 (tn e)) he (by rw [← hz, hc]; decide) r1
      rw [hid] at this; exact this
    rw [if_pos (show B1 35 (tn e) = 0 from hz.symm.trans hc)]
    show RA (sp_N_receive_22 b t s (tn (if zb (A1 (b + 4) 3) = 0 then 1 else 2) + 1) (wr A1 (b + 4) 3 0) v (if zb (A1 (b + 4) 3) = 0 then 1 else 2) 0) _ b e ∧ RT (sp_N_receive_22 b t s (tn (if zb (A1 (b + 4) 3) = 0 then 1 else 2) + 1) (wr A1 (b + 4) 3 0) v (if zb (A1 (b + 4) 3) = 0 then 1 else 2) 0) _ b e (T + 2)
    rw [if_pos hc]
    show RA (sp_N_receive_22 b t s 2 (wr A1 (b + 4) 3 0) v 1 0) _ b e ∧ RT (sp_N_receive_22 b t s 2 (wr A1 (b + 4) 3 0) v 1 0) _ b e (T + 2)
    rw [recv_1]
    exact ⟨RA_take he r2, RT_mono (by omega) (T_step he (by omega) (hRT2 0))⟩
  · rw [if_neg (show ¬ B1 35 (tn e) = 0 from fun h9 => hc (hz.trans h9))]
    show RA (sp_N_receive_22 b t s (tn (if zb (A1 (b + 4) 3) = 0 then 1 else 2) + 1) (wr A1 (b + 4) 3 0) v (if zb (A1 (b + 4) 3) = 0 then 1 else 2) 0) _ b e ∧ RT (sp_N_receive_22 b t s (tn (if zb (A1 (b + 4) 3) = 0 then 1 else 2) + 1) (wr A1 (b + 4) 3 0) v (if zb (A1 (b + 4) 3) = 0 then 1 else 2) 0) _ b e (T + 2)
    rw [if_neg hc]
    show RA (sp_N_receive_22 b t s 3 (wr A1 (b + 4) 3 0) v 2 0) _ b e ∧ RT (sp_N_receive_22 b t s 3 (wr A1 (b + 4) 3 0) v 2 0) _ b e (T + 2)
    rw [recv_2]
    have q1 : RT (cT b (wr A1 (b + 4) 3 0) v) (sp_M_take B1 e v) b e (T + 1) := T_step he (by omega) (hRT2 0)
    have q2 : RT (cT b (wr A1 (b + 4) 3 0) v) (wr (sp_M_take B1 e v) 35 (tn e) (zb 0)) b e (T + 1) := RT_congr (fun x k hx => rfl) (fun c k hc _ => by rw [wr_ck _ _ _ _ (by omega)]) he q1
    refine ⟨RA_take he ?_, T_step he (by omega) q2⟩
    have r3 : RA (wr A1 (b + 4) 3 0) (wr B1 35 (tn e) (zb 0)) b e := RA_slip he rfl r1
    exact RA_congr he (cT_c (by simp)) (cT_c (by simp)) (cT_c (by simp)) (fun c k hc _ => by
      rw [wr_r, wr_r, fr_M_take (by simp only [List.mem_cons, List.not_mem_nil, or_false] at hc ⊢; omega)]) r3
