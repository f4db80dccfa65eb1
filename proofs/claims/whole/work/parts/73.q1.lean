/-! the calls -/
theorem Rel_21 {n : Nat} {G : Mem} {v : Int32} (h : Rel n G) : Rel (n + 1) (wr G 21 0 v) := by
  obtain ⟨t, ht, hr⟩ := h
  refine ⟨t, by omega, Rab_congr (fun x hx => wr_c _ _ _ _ (by omega)) (wr_k _ _ _ _ (by decide)) (fun x k hx => wr_ck _ _ _ _ (by omega)) hr⟩
theorem Rel_suc {n : Nat} {G : Mem} (h : Rel n G) : Rel (n + 1) G := by
  obtain ⟨t, ht, hr⟩ := h
  exact ⟨t, by omega, hr⟩
theorem okk_of {n : Nat} {G : Mem} {v1 v2 c : Int32} {X : Int32 × Int32 × Mem} {Y : Mem → Int32 × Mem} (h : Rel n G) (hX : X = (c, v1, G)) (hY : Y G = (v2, wr G 21 0 c)) (hv : c = 0 → v2 = v1) : okk Rel n X (Y X.2.2) := by
  subst hX
  show okk Rel n (c, v1, G) (Y G)
  rw [hY]
  exact ⟨wr_same G 21 0 c, hv, Rel_21 h⟩
theorem ie_0 (G : Mem) : sp_M_isEnd G 0 = 1 := rfl
theorem ie_1 (G : Mem) : sp_M_isEnd G 1 = 1 := rfl
theorem ie_no {a : Int32} (h0 : ¬ a = 0) (h1 : ¬ a = 1) (G : Mem) : sp_M_isEnd G a = 0 := by unfold sp_M_isEnd; rw [if_neg h0, if_neg h1]
theorem ie_ok {e : Int32} (he : e = 0 ∨ e = 1) (G : Mem) : sp_M_isEnd G e = 1 := by rcases he with rfl | rfl <;> rfl
/-- an end that is one, or none -/
theorem end_cases {n : Nat} {G : Mem} (h : Rel n G) (a : Int32) : (∃ b t : Nat, t ≤ 600 * n ∧ kN b ∧ (a = 0 ∨ a = 1) ∧ sp_F_endOf G a = (0, nI b, G) ∧ tn (nI b) = b ∧ RN G G b a t (2 * t) ∧ (a = 0 ∧ b = 1 ∨ a = 1 ∧ b = 11)) ∨ (¬ a = 0 ∧ ¬ a = 1 ∧ sp_F_endOf G a = (1, 0, G)) := by
  obtain ⟨t, ht, -, -, hX, hY⟩ := h
  rcases eo_val G a with ⟨rfl, E⟩ | ⟨rfl, E⟩ | ⟨h0, h1, E⟩
  · exact Or.inl ⟨1, t, ht, Or.inl rfl, Or.inl rfl, E, rfl, hX, Or.inl ⟨rfl, rfl⟩⟩
  · exact Or.inl ⟨11, t, ht, Or.inr rfl, Or.inr rfl, E, rfl, hY, Or.inr ⟨rfl, rfl⟩⟩
  · exact Or.inr ⟨h0, h1, E⟩
theorem ok_symbol {n : Nat} {G : Mem} (h : Rel n G) (a : Int32) : okk Rel n (sp_F_symbol G a) (sp_M_symbol (sp_F_symbol G a).2.2 a) := by
  rcases end_cases h a with ⟨b, t, -, -, he, E, hb, hN, -⟩ | ⟨h0, h1, E⟩
  · refine okk_of (Y := fun G => sp_M_symbol G a) (c := 0) (v1 := G (b + 7) 0) (v2 := G 37 (tn a)) h ?_ ?_ (fun _ => hN.2.2.2.1.1.symm)
    · unfold sp_F_symbol; rw [E]; simp only [hb, if_true]
    · show sp_M_symbol G a = _
      unfold sp_M_symbol; rw [ie_ok he]; rfl
  · refine okk_of (Y := fun G => sp_M_symbol G a) (c := 1) (v1 := 0) (v2 := 0) h ?_ ?_ (fun _ => rfl)
    · unfold sp_F_symbol; rw [E]; rfl
    · show sp_M_symbol G a = _
      unfold sp_M_symbol; rw [ie_no h0 h1]; rfl
theorem ok_aligned {n : Nat} {G : Mem} (h : Rel n G) (a : Int32) : okk Rel n (sp_F_aligned G a) (sp_M_aligned (sp_F_aligned G a).2.2 a) := by
  rcases end_cases h a with ⟨b, t, -, -, he, E, hb, hN, -⟩ | ⟨h0, h1, E⟩
  · refine okk_of (Y := fun G => sp_M_aligned G a) (c := 0) (v1 := sp_R_isAligned (b + 8) G) (v2 := if G 43 (tn a) = 2 then 1 else 0) h ?_ ?_ (fun _ => ?_)
    · unfold sp_F_aligned; rw [E]; simp only [hb, if_true]
    · show sp_M_aligned G a = _
      unfold sp_M_aligned; rw [ie_ok he]; rfl
    · unfold sp_R_isAligned
      rw [hN.2.2.2.2.1.1, n3_if hN.2.2.2.2.1.2.1]
  · refine okk_of (Y := fun G => sp_M_aligned G a) (c := 1) (v1 := 0) (v2 := 0) h ?_ ?_ (fun _ => rfl)
    · unfold sp_F_aligned; rw [E]; rfl
    · show sp_M_aligned G a = _
      unfold sp_M_aligned; rw [ie_no h0 h1]; rfl
theorem ok_frame {n : Nat} {G : Mem} (h : Rel n G) (a : Int32) : okk Rel n (sp_F_frame G a) (sp_M_frame (sp_F_frame G a).2.2 a) := by
  rcases end_cases h a with ⟨b, t, -, -, he, E, hb, hN, -⟩ | ⟨h0, h1, E⟩
  · refine okk_of (Y := fun G => sp_M_frame G a) (c := 0) (v1 := G (b + 9) 0) (v2 := if G 52 (tn a) = 0 then -1 else G 53 (tn a)) h ?_ ?_ (fun _ => ?_)
    · unfold sp_F_frame; rw [E]; simp only [hb, if_true]
    · show sp_M_frame G a = _
      unfold sp_M_frame; rw [ie_ok he]; rfl
    · obtain ⟨-, -, -, -, -, -, -, hk⟩ := hN.2.2.2.2.2
      rcases hk with ⟨h52, h0, -⟩ | ⟨h52, -, -, -, q, -, h53, h0, -⟩
      · rw [h52, if_pos rfl]; exact h0.symm
      · rw [h52, if_neg (show ¬ (1 : Int32) = 0 by decide), h53]; exact h0.symm
  · refine okk_of (Y := fun G => sp_M_frame G a) (c := 1) (v1 := 0) (v2 := 0) h ?_ ?_ (fun _ => rfl)
    · unfold sp_F_frame; rw [E]; rfl
    · show sp_M_frame G a = _
      unfold sp_M_frame; rw [ie_no h0 h1]; rfl
theorem zb_01' (x : Int32) : zb x = 0 ∨ zb x = 1 := b01 x
theorem ok_alarm {n : Nat} {G : Mem} (h : Rel n G) (a : Int32) : okk Rel n (sp_F_alarm G a) (sp_M_alarm (sp_F_alarm G a).2.2 a) := by
  rcases end_cases h a with ⟨b, t, -, -, he, E, hb, hN, -⟩ | ⟨h0, h1, E⟩
  · refine okk_of (Y := fun G => sp_M_alarm G a) (c := 0) (v1 := zb (G (b + 8) 9)) (v2 := if G 51 (tn a) = 0 then 0 else 1) h ?_ ?_ (fun _ => ?_)
    · unfold sp_F_alarm; rw [E]; simp only [hb, if_true]
    · show sp_M_alarm G a = _
      unfold sp_M_alarm; rw [ie_ok he]; rfl
    · obtain ⟨-, -, -, -, -, h9, -⟩ := hN.2.2.2.2.1
      rcases zb_01' (G (b + 8) 9) with h | h
      · rw [← h9, h, if_pos rfl]
      · rw [← h9, h, if_neg (show ¬ (1 : Int32) = 0 by decide)]
  · refine okk_of (Y := fun G => sp_M_alarm G a) (c := 1) (v1 := 0) (v2 := 0) h ?_ ?_ (fun _ => rfl)
    · unfold sp_F_alarm; rw [E]; rfl
    · show sp_M_alarm G a = _
      unfold sp_M_alarm; rw [ie_no h0 h1]; rfl
