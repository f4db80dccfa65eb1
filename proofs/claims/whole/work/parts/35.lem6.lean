def hmC (G : Mem) : Prop := ∀ b, kN b → ∃ w : Nat, w ≤ 8 ∧ G (b + 4) 2 = nI w
def hmM (G : Mem) : Prop := ∀ e : Int32, (e = 0 ∨ e = 1) → ∃ w : Nat, w ≤ 8 ∧ G 32 (tn e) = nI w
theorem hmC_wr0 {G : Mem} (h : hmC G) {v : Int32} : hmC (wr G 0 2 v) := by
  intro b hb
  rw [wr_ck _ _ _ _ (by omega)]
  exact h b hb
theorem hmC_send {G : Mem} {b : Nat} (h : hmC G) (hb : kN b) : hmC (sp_N_send b G).2 := by
  intro b' hb'
  rw [fr_N_send (by rcases hb with rfl | rfl <;> rcases hb' with rfl | rfl <;> decide)]
  exact h b' hb'
theorem ac_w {c : Nat} {G : Mem} (hm : ∃ w : Nat, w ≤ 8 ∧ G c 2 = nI w) (t s : Int32) : ∃ w : Nat, w ≤ 8 ∧ (sp_A_asItComes c G t s).2 c 2 = nI w := by
  obtain ⟨w, k, hw, hG, hk, e, -, -⟩ := place_spec hm t
  unfold sp_A_asItComes
  by_cases h1 : sp_A_placeOf c G t < G c 2
  · rw [if_pos h1]
    rw [e, hG] at h1
    have : k < w := (nI_ltI (by omega) (by omega)).mp h1
    obtain ⟨v, rfl⟩ : ∃ v, w = v + 1 := ⟨w - 1, by omega⟩
    refine ⟨v, by omega, ?_⟩
    show wr (wr (wr G c 2 _) (c + 1) _ _) (c + 2) _ _ c 2 = _
    rw [wr_ck _ _ _ _ (by omega), wr_ck _ _ _ _ (by omega), wr_same, hG, nI_pred]
  · rw [if_neg h1]
    exact ⟨w, hw, hG⟩
theorem cms_w (c : Nat) (G : Mem) : (sp_A_comings c G).2 c 2 = G c 2 := by
  unfold sp_A_comings
  exact wr_k _ _ _ _ (by decide)
theorem hmC_recv {G : Mem} {b : Nat} {t s : Int32} (h : hmC G) (hb : kN b) : hmC (sp_N_receive b G t s) := by
  intro b' hb'
  by_cases e : b' = b
  · subst e
    unfold sp_N_receive
    rw [fr_N_receive_22 (by simp), cms_w]
    exact ac_w (h b' hb') t s
  · rw [fr_N_receive (by rcases hb with rfl | rfl <;> rcases hb' with rfl | rfl <;> first | exact absurd rfl e | decide)]
    exact h b' hb'
theorem hmM_wr {G : Mem} (h : hmM G) {k : Nat} {v : Int32} : hmM (wr G 21 k v) := by
  intro e he
  rw [wr_ck _ _ _ _ (by decide)]
  exact h e he
theorem hmM_send {G : Mem} (h : hmM G) (a : Int32) : hmM (sp_M_send G a).2 := by
  intro e he
  rw [fr_M_send (by decide)]
  exact h e he
theorem cm_w {G : Mem} (h : hmM G) {a : Int32} (ha : a = 0 ∨ a = 1) (s : Int32) : hmM (sp_M_coming G a s).2 := by
  unfold sp_M_coming
  by_cases h1 : 0 ≤ sp_M_said G a (G 21 1)
  · rw [if_pos h1]
    obtain ⟨w, k, hw, hG, hk, -⟩ := said_pos (h a ha) h1
    intro e he
    dsimp only
    rw [wr_ck _ _ _ _ (by decide), wr_ck _ _ _ _ (by decide)]
    by_cases hx : tn e = tn a
    · obtain ⟨v, rfl⟩ : ∃ v, w = v + 1 := ⟨w - 1, by omega⟩
      refine ⟨v, by omega, ?_⟩
      rw [hx, wr_same, hG, nI_pred]
    · rw [wr_k _ _ _ _ hx]
      exact h e he
  · rw [if_neg h1]
    exact h
theorem hmM_take {G : Mem} (h : hmM G) (a s : Int32) : hmM (sp_M_take G a s) := by
  intro e he
  rw [fr_M_take (by decide)]
  exact h e he
theorem hmM_arr {G : Mem} {a s : Int32} (h : hmM G) (ha : a = 0 ∨ a = 1) : hmM (sp_M_arrive G a s) := by
  unfold sp_M_arrive
  have h1 := hmM_take (cm_w h ha s) a (sp_M_coming G a s).1
  split
  · exact h1
  · refine hmM_take ?_ _ _
    intro e he
    rw [wr_ck _ _ _ _ (by decide)]
    exact h1 e he
theorem fp_step {x a1 : Int32} {d : Nat} (h : ∃ j : Nat, j ≤ 600 ∧ x = nI j ∧ d + 1 = 601 - j) (ha : a1 ≤ 600) (h1 : ¬ a1 ≤ x) : ∃ j : Nat, j ≤ 600 ∧ x + 1 = nI j ∧ d = 601 - j := by
  obtain ⟨j, hj, rfl, hd⟩ := h
  have hl : j < 600 := by
    rcases Nat.lt_or_ge j 600 with h | h
    · exact h
    · have : j = 600 := by omega
      subst this
      exact absurd ha h1
  exact ⟨j + 1, by omega, nI_1 j, by omega⟩
theorem fp_le {G : Mem} {a1 : Int32} (h : (sp_F_require G (if a1 < 1 then 0 else (if 600 < a1 then 0 else 1))).1 = 0) : a1 ≤ 600 := by
  have h1 := rq_ok h
  by_cases c1 : a1 < 1
  · rw [if_pos c1] at h1; exact absurd rfl h1
  · rw [if_neg c1] at h1
    by_cases c2 : 600 < a1
    · rw [if_pos c2] at h1; exact absurd rfl h1
    · exact Int32.not_lt.mp c2
theorem mp_le {G0 : Mem} {a1 : Int32} : (wr G0 21 0 (if sp_M_within G0 a1 1 600 = 0 then 1 else 0)) 21 0 = 0 → a1 ≤ 600 := by
  intro h
  rw [wr_same] at h
  by_cases c : sp_M_within G0 a1 1 600 = 0
  · rw [if_pos c] at h; exact absurd h (by decide)
  · exact (within_ok c).2
theorem ds_in2 {a1 x w : Int32} (he : a1 = 0 ∨ a1 = 1) (hw : ∃ v : Nat, v ≤ 8 ∧ w = nI v) (h2 : (if 0 ≤ x then 0 else (if w = 8 then 2 else 0) : Int32) ≤ 0) (h3 : ¬ 0 ≤ x) : vp_in (8 * a1 + w) 16 := by
  rw [if_neg h3] at h2
  obtain ⟨v, hv, rfl⟩ := hw
  have : v ≠ 8 := by
    intro e
    subst e
    exact absurd h2 (by decide)
  rcases he with rfl | rfl
  · exact (e8_in v (by omega)).1
  · exact (e8_in v (by omega)).2
