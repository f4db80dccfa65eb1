theorem ok_pass {n : Nat} {G : Mem} (hn : n < 512) (h : Rel n G) (a : Int32) : hmM (sp_F_pass G a).2.2 ∧ okk Rel n (sp_F_pass G a) (sp_M_pass (sp_F_pass G a).2.2 a) := by
  have hmG := Rel_hmM h
  have bad : (a < 1 ∨ 600 < a) → sp_F_pass G a = (1, 0, G) → hmM (sp_F_pass G a).2.2 ∧ okk Rel n (sp_F_pass G a) (sp_M_pass (sp_F_pass G a).2.2 a) := by
    intro hc hF
    refine ⟨by rw [hF]; exact hmG, okk_of (Y := fun G => sp_M_pass G a) (c := 1) (v1 := 0) (v2 := 0) h hF ?_ (fun _ => rfl)⟩
    show sp_M_pass G a = _
    unfold sp_M_pass
    rw [wi_no hc, if_pos rfl, mp_e, wr_same, if_neg (show ¬ (1 : Int32) = 0 by decide), if_neg (show ¬ (1 : Int32) = 0 by decide)]
    split <;> rfl
  have hF : sp_F_pass G a = (if (sp_F_require G (if a < 1 then 0 else (if 600 < a then 0 else 1))).1 = 0 then sp_F_pass_22 a 601 G 0 else ((sp_F_require G (if a < 1 then 0 else (if 600 < a then 0 else 1))).1, 0, G)) := by
    unfold sp_F_pass; simp only [rq_mem]
  by_cases c1 : a < 1
  · rw [if_pos c1, rq_0] at hF
    exact bad (Or.inl c1) hF
  rw [if_neg c1] at hF
  by_cases c2 : 600 < a
  · rw [if_pos c2, rq_0] at hF
    exact bad (Or.inr c2) hF
  rw [if_neg c2, rq_1, if_pos rfl] at hF
  have hw : sp_M_pass (sp_F_pass_22 a 601 G 0).2.2 a = sp_M_pass_22 a 601 (wr (sp_F_pass_22 a 601 G 0).2.2 21 0 0) 0 := by
    unfold sp_M_pass
    rw [wi_ok (Int32.not_lt.mp c1) (Int32.not_lt.mp c2), if_neg (show ¬ (1 : Int32) = 0 by decide)]
  rw [hF, hw]
  obtain ⟨m, hm, rfl⟩ := bd_nat (v := a) (n := 600) (by decide) (Int32.le_trans (by decide : (0 : Int32) ≤ 1) (Int32.not_lt.mp c1)) (Int32.not_lt.mp c2)
  obtain ⟨t, ht, hr⟩ := h
  have fX : ∀ x, 21 ≤ x → (sp_F_pass_22 (nI m) 601 G 0).2.2 x = G x := fun x hx => fpl_c hx _ _ _
  have hr1 : Rab G (wr (sp_F_pass_22 (nI m) 601 G 0).2.2 21 0 0) t := Rab_congr (fun _ _ => rfl) (by rw [wr_k _ _ _ _ (by decide), fX 21 (by omega)]) (fun x k hx => by rw [wr_ck _ _ _ _ (by omega), fX x (by omega)]) hr
  have key := P_loop hm 601 0 t G (wr (sp_F_pass_22 (nI m) 601 G 0).2.2 21 0 0) (by omega) rfl (by omega) (wr_same _ _ _ _) hr1
  rw [nI_0] at key
  have fY : ∀ x, x < 21 → (sp_M_pass_22 (nI m) 601 (wr (sp_F_pass_22 (nI m) 601 G 0).2.2 21 0 0) 0).2 x = (sp_F_pass_22 (nI m) 601 G 0).2.2 x := fun x hx => (mpl_c hx _ _ _).trans (wr_c _ _ _ _ (by omega))
  refine ⟨hmM_congr (fX 32 (by omega)) hmG, ?_⟩
  revert key fY
  generalize sp_M_pass_22 (nI m) 601 (wr (sp_F_pass_22 (nI m) 601 G 0).2.2 21 0 0) 0 = Y
  generalize sp_F_pass_22 (nI m) 601 G 0 = X
  rintro ⟨k1, k2, k3, k4⟩ fY
  exact ⟨k3.trans k1.symm, fun _ => k2, t + (m - 0), by omega, Rab_congr fY rfl (fun _ _ _ => rfl) k4⟩
theorem Gi_B {c k : Nat} (h : 21 ≤ c) : Gi c k = 0 := by
  unfold Gi
  rw [if_neg (by omega), if_neg (by omega)]
theorem RN_Gi {b : Nat} {e : Int32} (hbe : e = 0 ∧ b = 1 ∨ e = 1 ∧ b = 11) : RN Gi Gi b e 0 0 := by
  have gA : Gi (b + 1) 3 = 32 ∧ Gi (b + 1) 1 = 0 ∧ Gi (b + 1) 4 = 0 ∧ Gi (b + 1) 5 = 0 ∧ Gi (b + 3) 0 = -1 ∧ Gi (b + 9) 0 = -1 := by
    rcases hbe with ⟨-, rfl⟩ | ⟨-, rfl⟩ <;> decide
  obtain ⟨s3, s1, s4, s5, e0, o0⟩ := gA
  have z : ∀ x y, x = b + 2 ∨ x = b + 4 ∨ x = b + 5 ∨ x = b + 6 ∨ x = b + 7 ∨ x = b + 8 → Gi x y = 0 := by
    intro x y hx
    unfold Gi
    rcases hbe with ⟨-, rfl⟩ | ⟨-, rfl⟩
    · rw [if_neg (by omega), if_neg (by omega)]
    · rw [if_neg (by omega), if_neg (by omega)]
  have zE : ∀ y, 1 ≤ y → Gi (b + 3) y = 0 := by
    intro y hy
    unfold Gi
    rcases hbe with ⟨-, rfl⟩ | ⟨-, rfl⟩
    · rw [if_neg (by omega), if_neg (by omega)]
    · rw [if_neg (by omega), if_neg (by omega)]
  have zO : ∀ y, 1 ≤ y → Gi (b + 9) y = 0 := by
    intro y hy
    unfold Gi
    rcases hbe with ⟨-, rfl⟩ | ⟨-, rfl⟩
    · rw [if_neg (by omega), if_neg (by omega)]
    · rw [if_neg (by omega), if_neg (by omega)]
  have gB : ∀ c k, 21 ≤ c → Gi c k = 0 := fun c k h => Gi_B h
  refine ⟨?_, ?_, ?_, ?_, ?_, ?_⟩
  · refine ⟨?_, ?_, ?_, 0, 0, by omega, by omega, gB _ _ (by omega), gB _ _ (by omega), fun _ => ⟨s3, s1, ?_, ?_⟩, fun h => absurd rfl h⟩
    · rw [z _ _ (Or.inl rfl), gB _ _ (by omega)]
    · rw [z _ _ (Or.inl rfl), gB _ _ (by omega)]
    · rw [z _ _ (Or.inl rfl), gB _ _ (by omega)]
    · rw [s4, gB _ _ (by omega)]
    · rw [s5, gB _ _ (by omega)]
  · refine ⟨0, 0, 0, 0, by decide, by decide, by decide, by omega, ?_, by decide, ?_⟩
    · unfold mR
      rw [gB _ _ (by omega), gB _ _ (by omega), gB _ _ (by omega), gB _ _ (by omega)]; rfl
    · unfold eR
      rw [e0, zE 1 (by omega), zE 2 (by omega), zE 3 (by omega), zE 4 (by omega), zE 5 (by omega)]
      decide
  · refine ⟨?_, 0, by omega, z _ _ (by omega), gB _ _ (by omega), fun k hk => absurd hk (by omega), fun i j hi => absurd hi (by omega)⟩
    rw [z _ _ (by omega), gB _ _ (by omega)]; rfl
  · have z7 : ∀ y, Gi (b + 7) y = 0 := fun y => z _ _ (by omega)
    unfold RD
    simp only [z7, gB _ _ (show 21 ≤ 37 by omega), gB _ _ (show 21 ≤ 40 by omega), gB _ _ (show 21 ≤ 41 by omega), gB _ _ (show 21 ≤ 63 by omega), gB _ _ (show 21 ≤ 42 by omega), gB _ _ (show 21 ≤ 38 by omega), gB _ _ (show 21 ≤ 39 by omega), gB _ _ (show 21 ≤ 36 by omega)]
    exact ⟨trivial, trivial, trivial, trivial, ⟨0, by omega, rfl, fun _ => ⟨trivial, trivial, trivial, trivial⟩, fun h => absurd rfl h⟩, ⟨0, by omega, rfl, rfl, rfl, rfl⟩, Or.inl trivial, Or.inl trivial, Or.inl trivial, ⟨0, by omega, rfl, rfl⟩⟩
  · have z8 : ∀ y, Gi (b + 8) y = 0 := fun y => z _ _ (by omega)
    unfold RR
    simp only [z8, gB _ _ (show 21 ≤ 43 by omega), gB _ _ (show 21 ≤ 44 by omega), gB _ _ (show 21 ≤ 45 by omega), gB _ _ (show 21 ≤ 46 by omega), gB _ _ (show 21 ≤ 47 by omega), gB _ _ (show 21 ≤ 48 by omega), gB _ _ (show 21 ≤ 49 by omega), gB _ _ (show 21 ≤ 50 by omega), gB _ _ (show 21 ≤ 51 by omega), gB _ _ (show 21 ≤ 63 by omega)]
    exact ⟨trivial, Or.inl trivial, trivial, trivial, trivial, by decide, ⟨0, by omega, rfl, rfl, rfl⟩, Or.inl trivial, ⟨0, by omega, rfl, fun _ => rfl, fun h => absurd h (by decide), fun h => absurd h (by decide)⟩, fun h => absurd h (by decide)⟩
  · have g43 := gB 43 (tn e) (by omega)
    refine ⟨?_, ?_, ?_, ?_, ?_, ?_, ⟨0, by omega, zO 1 (by omega), fun _ => rfl, fun h => ?_⟩, Or.inl ⟨gB _ _ (by omega), o0, ?_, ?_, gB _ _ (by omega), gB _ _ (by omega), gB _ _ (by omega), gB _ _ (by omega)⟩⟩
    · rw [zO _ (by omega), gB _ _ (by omega)]
    · rw [zO _ (by omega), gB _ _ (by omega)]
    · rw [zO _ (by omega), gB _ _ (by omega)]; rfl
    · rw [zO _ (by omega), gB _ _ (by omega)]; rfl
    · rw [zO _ (by omega)]; intro i hi; exact b_0 i
    · rw [zO _ (by omega)]; intro i hi; exact b_0 i
    · rw [g43] at h; exact absurd h (by decide)
    · rw [zO _ (by omega)]; rfl
    · rw [zO _ (by omega)]; rfl
theorem Rel_Gi : Rel 0 Gi := ⟨0, by omega, by decide, by decide, RN_Gi (Or.inl ⟨rfl, rfl⟩), RN_Gi (Or.inr ⟨rfl, rfl⟩)⟩
theorem Rel_OK : LawOK Rel := ⟨Rel_Gi, fun _ _ h => Rel_hmC h, fun _ _ h => Rel_suc h, fun _ _ _ h a k v => ok_load h a k v, fun _ _ _ h a k s => ok_disturb h a k s, fun _ _ _ h a => ok_slip h a, fun _ _ hn h a => ok_pass hn h a, fun _ _ _ h a => ok_symbol h a, fun _ _ _ h a => ok_aligned h a, fun _ _ _ h a => ok_frame h a, fun _ _ hn h a k => ok_slot h hn a k, fun _ _ _ h a => ok_alarm h a, fun _ _ _ h a k => ok_count h a k⟩
